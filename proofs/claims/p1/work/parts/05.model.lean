def wm_feed : List Cond := .code yX12_feed cX12_feed 8 (some .int) :: ([.fieldLink RX12 142 "PutBackModel" "told" "I", .fieldLink RX12 318 "PutBackModel" "taped" "I", .fieldLink RX12 101 "PutBackModel" "tape" "[B"] ++ wsX120)
theorem im_feed_RX12 : ∀ w ∈ u_ws RX12 TX12 65, w ∈ wm_feed := fun w h => List.mem_cons_of_mem _ (List.mem_append_right _ h)
set_option maxHeartbeats 4000000 in
set_option maxRecDepth 100000 in
theorem m_feed (l : Launch) (dC : Nat → ClassId) (dI : Nat → Nat → Nat) (sz : Nat) (h0 : Nat) (v1 : Int32) (v2 : Int32) (v3 : Int32) (v4 : Int32) (v5 : Int32) (a1 : Nat) (a2 : Nat) (a3 : Nat) (a4 : Nat) (a5 : Nat) (a7 : Nat) (a8 : Nat) (a10 : Nat) (a11 : Nat) (a12 : Nat) (a13 : Nat) (a15 : Nat) (a16 : Nat) (a17 : Nat) (a18 : Nat) (a19 : Nat) (a20 : Nat) (a21 : Nat) (a22 : Nat) (a24 : Nat) (a26 : Nat) (a27 : Nat) (a29 : Nat) (a30 : Nat) (a31 : Nat) (a32 : Nat) (a33 : Nat) (a35 : Nat) (a36 : Nat) (a38 : Nat) (a50 : Nat) (a51 : Nat) (a54 : Nat) (a55 : Nat) (a57 : Nat) (a58 : Nat) (a59 : Nat) (a60 : Nat) (a64 : Nat) (cB : ClassId) : Met l yX12_feed wm_feed ({ frames := 0, cells := 0, slots := 0, locals := 0 } : Room) (va_Pc [.ref h0, .int v1, .int v2, .int v3, .int v4, .int v5] (fun U => U.heap.size = sz ∧ va_P (dC, dI) cls [(h0, .inr (12, [.int 0, .ref a1, .ref a2, .ref a3, .ref a4, .ref a5, .int 0, .ref a7, .ref a8, .int 0, .ref a10, .ref a11, .ref a12, .ref a13, .int 0, .ref a15, .ref a16, .ref a17, .ref a18, .ref a19, .ref a20, .ref a21, .ref a22, .int 0, .ref a24, .int 0, .ref a26, .ref a27, .int 0, .ref a29, .ref a30, .ref a31, .ref a32, .ref a33, .int 0, .ref a35, .ref a36, .int 0, .ref a38, .int 0, .int 0, .int 0, .int 0, .int 0, .long 0, .int 0, .int 0, .int (-1), .int (-1), .int 0, .ref a50, .ref a51, .int 0, .int 0, .ref a54, .ref a55, .int (-1), .ref a57, .ref a58, .ref a59, .ref a60, .int 0, .int 0, .int 0, .ref a64])), (a38, .inl (cB, 600, .inl (fun _ => 0)))] U.heap ∧ va_K (dC, dI) cls [(cB, .byte)] U ∧ va_D (fun _ => True) [(h0, .inr (12, [.int 0, .ref a1, .ref a2, .ref a3, .ref a4, .ref a5, .int 0, .ref a7, .ref a8, .int 0, .ref a10, .ref a11, .ref a12, .ref a13, .int 0, .ref a15, .ref a16, .ref a17, .ref a18, .ref a19, .ref a20, .ref a21, .ref a22, .int 0, .ref a24, .int 0, .ref a26, .ref a27, .int 0, .ref a29, .ref a30, .ref a31, .ref a32, .ref a33, .int 0, .ref a35, .ref a36, .int 0, .ref a38, .int 0, .int 0, .int 0, .int 0, .int 0, .long 0, .int 0, .int 0, .int (-1), .int (-1), .int 0, .ref a50, .ref a51, .int 0, .int 0, .ref a54, .ref a55, .int (-1), .ref a57, .ref a58, .ref a59, .ref a60, .int 0, .int 0, .int 0, .ref a64])), (a38, .inl (cB, 600, .inl (fun _ => 0)))])) (va_Qi (fun (r : Int32) (_ : Unit) => r = 20) (fun (_ : Unit) t => va_P (dC, dI) cls [] t.heap ∧ va_K (dC, dI) cls [(cB, .byte)] t ∧ va_D (va_A [(h0, .inr (12, [.int 0, .ref a1, .ref a2, .ref a3, .ref a4, .ref a5, .int 0, .ref a7, .ref a8, .int 0, .ref a10, .ref a11, .ref a12, .ref a13, .int 0, .ref a15, .ref a16, .ref a17, .ref a18, .ref a19, .ref a20, .ref a21, .ref a22, .int 0, .ref a24, .int 0, .ref a26, .ref a27, .int 0, .ref a29, .ref a30, .ref a31, .ref a32, .ref a33, .int 0, .ref a35, .ref a36, .int 0, .ref a38, .int 0, .int 0, .int 0, .int 0, .int 0, .long 0, .int 0, .int 0, .int (-1), .int (-1), .int 0, .ref a50, .ref a51, .int 0, .int 0, .ref a54, .ref a55, .int (-1), .ref a57, .ref a58, .ref a59, .ref a60, .int 0, .int 0, .int 0, .ref a64])), (a38, .inl (cB, 600, .inl (fun _ => 0)))] sz) []) (va_A [(h0, .inr (12, [.int 0, .ref a1, .ref a2, .ref a3, .ref a4, .ref a5, .int 0, .ref a7, .ref a8, .int 0, .ref a10, .ref a11, .ref a12, .ref a13, .int 0, .ref a15, .ref a16, .ref a17, .ref a18, .ref a19, .ref a20, .ref a21, .ref a22, .int 0, .ref a24, .int 0, .ref a26, .ref a27, .int 0, .ref a29, .ref a30, .ref a31, .ref a32, .ref a33, .int 0, .ref a35, .ref a36, .int 0, .ref a38, .int 0, .int 0, .int 0, .int 0, .int 0, .long 0, .int 0, .int 0, .int (-1), .int (-1), .int 0, .ref a50, .ref a51, .int 0, .int 0, .ref a54, .ref a55, .int (-1), .ref a57, .ref a58, .ref a59, .ref a60, .int 0, .int 0, .int 0, .ref a64])), (a38, .inl (cB, 600, .inl (fun _ => 0)))] sz)) 0 0 (va_A [(h0, .inr (12, [.int 0, .ref a1, .ref a2, .ref a3, .ref a4, .ref a5, .int 0, .ref a7, .ref a8, .int 0, .ref a10, .ref a11, .ref a12, .ref a13, .int 0, .ref a15, .ref a16, .ref a17, .ref a18, .ref a19, .ref a20, .ref a21, .ref a22, .int 0, .ref a24, .int 0, .ref a26, .ref a27, .int 0, .ref a29, .ref a30, .ref a31, .ref a32, .ref a33, .int 0, .ref a35, .ref a36, .int 0, .ref a38, .int 0, .int 0, .int 0, .int 0, .int 0, .long 0, .int 0, .int 0, .int (-1), .int (-1), .int 0, .ref a50, .ref a51, .int 0, .int 0, .ref a54, .ref a55, .int (-1), .ref a57, .ref a58, .ref a59, .ref a60, .int 0, .int 0, .int 0, .ref a64])), (a38, .inl (cB, 600, .inl (fun _ => 0)))] sz) := by
  refine Met.ofW (cc := cX12_feed) (maxL := 8) (ret := (some .int)) (by decide) rfl ?_
  intro p e s m args below meth c s₁ B hml hv
  obtain ⟨rfl, hsz, hP, hK, hD0⟩ := hv
  have hx := B.exec
  have hb := B.bytes
  have hr := B.returns
  have hts := atoms_spec (ws := wm_feed) B.pre
  have hown : s.vm.findClass RX12 = some m.cls := findClass_of_methodNamed B.named
  have hlocks := B.notSynchronized
  subst hsz
  have hD := hD0.self (sz := s.heap.size)
  generalize hAe : va_A [(h0, .inr (12, [.int 0, .ref a1, .ref a2, .ref a3, .ref a4, .ref a5, .int 0, .ref a7, .ref a8, .int 0, .ref a10, .ref a11, .ref a12, .ref a13, .int 0, .ref a15, .ref a16, .ref a17, .ref a18, .ref a19, .ref a20, .ref a21, .ref a22, .int 0, .ref a24, .int 0, .ref a26, .ref a27, .int 0, .ref a29, .ref a30, .ref a31, .ref a32, .ref a33, .int 0, .ref a35, .ref a36, .int 0, .ref a38, .int 0, .int 0, .int 0, .int 0, .int 0, .long 0, .int 0, .int 0, .int (-1), .int (-1), .int 0, .ref a50, .ref a51, .int 0, .int 0, .ref a54, .ref a55, .int (-1), .ref a57, .ref a58, .ref a59, .ref a60, .int 0, .int 0, .int 0, .ref a64])), (a38, .inl (cB, 600, .inl (fun _ => 0)))] s.heap.size = A at hD ⊢
  have hA : ∀ q : Nat, s.heap.size ≤ q → A q := fun q h => by rw [← hAe]; exact Or.inr h
  have hP : va_P (dC, dI) cls [(h0, .inr (12, [.int 0, .ref a1, .ref a2, .ref a3, .ref a4, .ref a5, .int 0, .ref a7, .ref a8, .int 0, .ref a10, .ref a11, .ref a12, .ref a13, .int 0, .ref a15, .ref a16, .ref a17, .ref a18, .ref a19, .ref a20, .ref a21, .ref a22, .int 0, .ref a24, .int 0, .ref a26, .ref a27, .int 0, .ref a29, .ref a30, .ref a31, .ref a32, .ref a33, .int 0, .ref a35, .ref a36, .int 0, .ref a38, .int 0, .int 0, .int 0, .int 0, .int 0, .long 0, .int 0, .int 0, .int (-1), .int (-1), .int 0, .ref a50, .ref a51, .int 0, .int 0, .ref a54, .ref a55, .int (-1), .ref a57, .ref a58, .ref a59, .ref a60, .int 0, .int 0, .int 0, .ref a64])), (a38, .inl (cB, 600, .inl (fun _ => 0)))] s.heap := hP
  have hl := lv_entry ([.ref h0, .int v1, .int v2, .int v3, .int v4, .int v5]) (n := 8) (Nat.le_of_ble_eq_true rfl)
  rw [lg_entry_eq]
  generalize (lg_sl ([.ref h0, .int v1, .int v2, .int v3, .int v4, .int v5]) ++ List.replicate (8 - (lg_sl ([.ref h0, .int v1, .int v2, .int v3, .int v4, .int v5])).length) Slot.unset).toArray = ls at hl ⊢
  have hl : lv_has ls 8 [(0, .ref h0), (1, .int v1), (2, .int v2), (3, .int v3), (4, .int v4), (5, .int v5)] := hl
  obtain ⟨H, hH⟩ : ∃ H : Heap, s.heap = H := ⟨_, rfl⟩
  rw [hH] at hP ⊢
  have hS : va_S A s.heap H [] := by rw [← hH]; exact va_S.rf
  refine lv_aload_n hx hb dX12_feed_0 rfl (lv_at hl 0 rfl) ?_
  refine lv_iconst (v := 0) hx hb dX12_feed_1 (by decide) ?_
  refine va_put (D := (dC, dI)) (ci := 12) (v := .int 0) (ty := .int) (C := RX12) (T := TX12) (N := 65) hx hb hts im_feed_RX12 tyX12 tyX12_ok nmX12 hown hK hP hD hS 0 rfl rfl 0 (by decide) (hts (.fieldLink RX12 142 "PutBackModel" "told" "I") (by decide +kernel)) (fun _ h9 => h9) rfl (by decide +kernel) rfl rfl (Nat.le_of_ble_eq_true rfl) dX12_feed_2 (fun H locs hP hD hS => ?_)
  have hP : va_P (dC, dI) cls [(h0, .inr (12, [.int 0, .ref a1, .ref a2, .ref a3, .ref a4, .ref a5, .int 0, .ref a7, .ref a8, .int 0, .ref a10, .ref a11, .ref a12, .ref a13, .int 0, .ref a15, .ref a16, .ref a17, .ref a18, .ref a19, .ref a20, .ref a21, .ref a22, .int 0, .ref a24, .int 0, .ref a26, .ref a27, .int 0, .ref a29, .ref a30, .ref a31, .ref a32, .ref a33, .int 0, .ref a35, .ref a36, .int 0, .ref a38, .int 0, .int 0, .int 0, .int 0, .int 0, .long 0, .int 0, .int 0, .int (-1), .int (-1), .int 0, .ref a50, .ref a51, .int 0, .int 0, .ref a54, .ref a55, .int (-1), .ref a57, .ref a58, .ref a59, .ref a60, .int 0, .int 0, .int 0, .ref a64])), (a38, .inl (cB, 600, .inl (fun _ => 0)))] H := hP
  have hD : va_D A [(h0, .inr (12, [.int 0, .ref a1, .ref a2, .ref a3, .ref a4, .ref a5, .int 0, .ref a7, .ref a8, .int 0, .ref a10, .ref a11, .ref a12, .ref a13, .int 0, .ref a15, .ref a16, .ref a17, .ref a18, .ref a19, .ref a20, .ref a21, .ref a22, .int 0, .ref a24, .int 0, .ref a26, .ref a27, .int 0, .ref a29, .ref a30, .ref a31, .ref a32, .ref a33, .int 0, .ref a35, .ref a36, .int 0, .ref a38, .int 0, .int 0, .int 0, .int 0, .int 0, .long 0, .int 0, .int 0, .int (-1), .int (-1), .int 0, .ref a50, .ref a51, .int 0, .int 0, .ref a54, .ref a55, .int (-1), .ref a57, .ref a58, .ref a59, .ref a60, .int 0, .int 0, .int 0, .ref a64])), (a38, .inl (cB, 600, .inl (fun _ => 0)))] := hD
  refine lv_aload_n hx hb dX12_feed_5 rfl (lv_at hl 0 rfl) ?_
  refine va_get (D := (dC, dI)) (ci := 12) (v := .int 0) (C := RX12) (T := TX12) (N := 65) hx hb hts im_feed_RX12 hown hK hP 0 rfl rfl 39 (by decide) (hts (.fieldLink RX12 318 "PutBackModel" "taped" "I") (by decide +kernel)) (fun _ h9 => h9) rfl dX12_feed_6 ?_
  refine lv_bipush (v := 20) hx hb dX12_feed_9 (by decide) ?_
  refine lv_iadd hx hb dX12_feed_11 ?_
  refine lv_topi (fun z_1 ez_1 => ?_)
  obtain rfl : z_1 = (20 : Int32) := ez_1.trans (by decide)
  refine lv_sipush (v := 600) hx hb dX12_feed_12 (by decide) ?_
  refine lv_icmp_le (tgt := 20) hx hb dX12_feed_15 (by decide) (fun c_2 => ?_) (fun c_2 => ?_)
  rotate_left
  · exact (by revert c_2; decide : False).elim
  refine lv_iconst (v := 0) hx hb dX12_feed_20 (by decide) ?_
  refine lv_istore (lv' := [(6, .int 0), (0, .ref h0), (1, .int v1), (2, .int v2), (3, .int v3), (4, .int v4), (5, .int v5)]) hx hb dX12_feed_21 hl (by decide) rfl (fun ls hl => ?_)
  refine lv_iload hx hb dX12_feed_23 (lv_at hl 0 rfl) ?_
  refine lv_bipush (v := 20) hx hb dX12_feed_25 (by decide) ?_
  refine lv_icmp_ge (tgt := 117) hx hb dX12_feed_27 (by decide) (fun c_3 => ?_) (fun c_3 => ?_)
  · exact (by revert c_3; decide : False).elim
  refine lv_iload hx hb dX12_feed_30 (lv_at hl 0 rfl) ?_
  refine lv_iconst (v := 4) hx hb dX12_feed_32 (by decide) ?_
  refine lv_icmp_ge (tgt := 40) hx hb dX12_feed_33 (by decide) (fun c_4 => ?_) (fun c_4 => ?_)
  · exact (by revert c_4; decide : False).elim
  refine lv_iload_n hx hb dX12_feed_36 rfl (lv_at hl 2 rfl) ?_
  refine lv_goto (tgt := 76) hx hb dX12_feed_37 (by decide) ?_
  refine lv_istore (lv' := [(7, .int v1), (6, .int 0), (0, .ref h0), (1, .int v1), (2, .int v2), (3, .int v3), (4, .int v4), (5, .int v5)]) hx hb dX12_feed_76 hl (by decide) rfl (fun ls hl => ?_)
  refine lv_aload_n hx hb dX12_feed_78 rfl (lv_at hl 2 rfl) ?_
  refine va_get (D := (dC, dI)) (ci := 12) (v := .ref a38) (C := RX12) (T := TX12) (N := 65) hx hb hts im_feed_RX12 hown hK hP 0 rfl rfl 38 (by decide) (hts (.fieldLink RX12 101 "PutBackModel" "tape" "[B") (by decide +kernel)) (fun _ h9 => h9) rfl dX12_feed_79 ?_
  refine lv_aload_n hx hb dX12_feed_82 rfl (lv_at hl 2 rfl) ?_
  refine va_get (D := (dC, dI)) (ci := 12) (v := .int 0) (C := RX12) (T := TX12) (N := 65) hx hb hts im_feed_RX12 hown hK hP 0 rfl rfl 39 (by decide) (hts (.fieldLink RX12 318 "PutBackModel" "taped" "I") (by decide +kernel)) (fun _ h9 => h9) rfl dX12_feed_83 ?_
  refine lv_iload hx hb dX12_feed_86 (lv_at hl 0 rfl) ?_
  refine lv_bipush (v := 24) hx hb dX12_feed_88 (by decide) ?_
  refine lv_bipush (v := 8) hx hb dX12_feed_90 (by decide) ?_
  refine lv_iload hx hb dX12_feed_92 (lv_at hl 1 rfl) ?_
  refine lv_iconst (v := 4) hx hb dX12_feed_94 (by decide) ?_
  refine lv_irem hx hb dX12_feed_95 (by decide) ?_
  refine lv_topi (fun z_5 ez_5 => ?_)
  obtain rfl : z_5 = (0 : Int32) := ez_5.trans (by decide)
  refine lv_imul hx hb dX12_feed_96 ?_
  refine lv_topi (fun z_6 ez_6 => ?_)
  obtain rfl : z_6 = (0 : Int32) := ez_6.trans (by decide)
  refine lv_isub hx hb dX12_feed_97 ?_
  refine lv_topi (fun z_7 ez_7 => ?_)
  obtain rfl : z_7 = (24 : Int32) := ez_7.trans (by decide)
  refine lv_ishr hx hb dX12_feed_98 ?_
  refine lv_topi (fun z_8 ez_8 => ?_)
  refine lv_i2b hx hb dX12_feed_99 rfl ?_
  refine lv_topi (fun z_9 ez_9 => ?_)
  refine va_bast hx hb hK hP hD hS 1 0 rfl rfl (by unfold vp_in; decide) dX12_feed_100 (fun H locs hP hD hS => ?_)
  have hP : va_P (dC, dI) cls [(h0, .inr (12, [.int 0, .ref a1, .ref a2, .ref a3, .ref a4, .ref a5, .int 0, .ref a7, .ref a8, .int 0, .ref a10, .ref a11, .ref a12, .ref a13, .int 0, .ref a15, .ref a16, .ref a17, .ref a18, .ref a19, .ref a20, .ref a21, .ref a22, .int 0, .ref a24, .int 0, .ref a26, .ref a27, .int 0, .ref a29, .ref a30, .ref a31, .ref a32, .ref a33, .int 0, .ref a35, .ref a36, .int 0, .ref a38, .int 0, .int 0, .int 0, .int 0, .int 0, .long 0, .int 0, .int 0, .int (-1), .int (-1), .int 0, .ref a50, .ref a51, .int 0, .int 0, .ref a54, .ref a55, .int (-1), .ref a57, .ref a58, .ref a59, .ref a60, .int 0, .int 0, .int 0, .ref a64])), (a38, .inl (cB, 600, .inl (upd (fun _ => 0) (0 : Int32).toNatClampNeg (vp_nar .byte z_9))))] H := hP
  have hD : va_D A [(h0, .inr (12, [.int 0, .ref a1, .ref a2, .ref a3, .ref a4, .ref a5, .int 0, .ref a7, .ref a8, .int 0, .ref a10, .ref a11, .ref a12, .ref a13, .int 0, .ref a15, .ref a16, .ref a17, .ref a18, .ref a19, .ref a20, .ref a21, .ref a22, .int 0, .ref a24, .int 0, .ref a26, .ref a27, .int 0, .ref a29, .ref a30, .ref a31, .ref a32, .ref a33, .int 0, .ref a35, .ref a36, .int 0, .ref a38, .int 0, .int 0, .int 0, .int 0, .int 0, .long 0, .int 0, .int 0, .int (-1), .int (-1), .int 0, .ref a50, .ref a51, .int 0, .int 0, .ref a54, .ref a55, .int (-1), .ref a57, .ref a58, .ref a59, .ref a60, .int 0, .int 0, .int 0, .ref a64])), (a38, .inl (cB, 600, .inl (upd (fun _ => 0) (0 : Int32).toNatClampNeg (vp_nar .byte z_9))))] := hD
  generalize (upd (fun _ => 0) (0 : Int32).toNatClampNeg (vp_nar .byte z_9)) = g_10 at hP hD
  refine lv_aload_n hx hb dX12_feed_101 rfl (lv_at hl 2 rfl) ?_
  refine lv_aload_n hx hb dX12_feed_102 rfl (lv_at hl 2 rfl) ?_
  refine va_get (D := (dC, dI)) (ci := 12) (v := .int 0) (C := RX12) (T := TX12) (N := 65) hx hb hts im_feed_RX12 hown hK hP 0 rfl rfl 39 (by decide) (hts (.fieldLink RX12 318 "PutBackModel" "taped" "I") (by decide +kernel)) (fun _ h9 => h9) rfl dX12_feed_103 ?_
  refine lv_iconst (v := 1) hx hb dX12_feed_106 (by decide) ?_
  refine lv_iadd hx hb dX12_feed_107 ?_
  refine lv_topi (fun z_11 ez_11 => ?_)
  obtain rfl : z_11 = (1 : Int32) := ez_11.trans (by decide)
  refine va_put (D := (dC, dI)) (ci := 12) (v := .int 1) (ty := .int) (C := RX12) (T := TX12) (N := 65) hx hb hts im_feed_RX12 tyX12 tyX12_ok nmX12 hown hK hP hD hS 0 rfl rfl 39 (by decide) (hts (.fieldLink RX12 318 "PutBackModel" "taped" "I") (by decide +kernel)) (fun _ h9 => h9) rfl (by decide +kernel) rfl rfl (Nat.le_of_ble_eq_true rfl) dX12_feed_108 (fun H locs hP hD hS => ?_)
  have hP : va_P (dC, dI) cls [(h0, .inr (12, [.int 0, .ref a1, .ref a2, .ref a3, .ref a4, .ref a5, .int 0, .ref a7, .ref a8, .int 0, .ref a10, .ref a11, .ref a12, .ref a13, .int 0, .ref a15, .ref a16, .ref a17, .ref a18, .ref a19, .ref a20, .ref a21, .ref a22, .int 0, .ref a24, .int 0, .ref a26, .ref a27, .int 0, .ref a29, .ref a30, .ref a31, .ref a32, .ref a33, .int 0, .ref a35, .ref a36, .int 0, .ref a38, .int 1, .int 0, .int 0, .int 0, .int 0, .long 0, .int 0, .int 0, .int (-1), .int (-1), .int 0, .ref a50, .ref a51, .int 0, .int 0, .ref a54, .ref a55, .int (-1), .ref a57, .ref a58, .ref a59, .ref a60, .int 0, .int 0, .int 0, .ref a64])), (a38, .inl (cB, 600, .inl g_10))] H := hP
  have hD : va_D A [(h0, .inr (12, [.int 0, .ref a1, .ref a2, .ref a3, .ref a4, .ref a5, .int 0, .ref a7, .ref a8, .int 0, .ref a10, .ref a11, .ref a12, .ref a13, .int 0, .ref a15, .ref a16, .ref a17, .ref a18, .ref a19, .ref a20, .ref a21, .ref a22, .int 0, .ref a24, .int 0, .ref a26, .ref a27, .int 0, .ref a29, .ref a30, .ref a31, .ref a32, .ref a33, .int 0, .ref a35, .ref a36, .int 0, .ref a38, .int 1, .int 0, .int 0, .int 0, .int 0, .long 0, .int 0, .int 0, .int (-1), .int (-1), .int 0, .ref a50, .ref a51, .int 0, .int 0, .ref a54, .ref a55, .int (-1), .ref a57, .ref a58, .ref a59, .ref a60, .int 0, .int 0, .int 0, .ref a64])), (a38, .inl (cB, 600, .inl g_10))] := hD
  refine lv_iinc (v := 1) (lv' := [(6, .int 1), (7, .int v1), (0, .ref h0), (1, .int v1), (2, .int v2), (3, .int v3), (4, .int v4), (5, .int v5)]) hx hb dX12_feed_111 hl (k := 1) rfl (by decide) (by decide) rfl (fun ls hl => ?_)
  refine lv_goto (tgt := 23) hx hb dX12_feed_114 (by decide) ?_
  refine lv_iload hx hb dX12_feed_23 (lv_at hl 0 rfl) ?_
  refine lv_bipush (v := 20) hx hb dX12_feed_25 (by decide) ?_
  refine lv_icmp_ge (tgt := 117) hx hb dX12_feed_27 (by decide) (fun c_12 => ?_) (fun c_12 => ?_)
  · exact (by revert c_12; decide : False).elim
  refine lv_iload hx hb dX12_feed_30 (lv_at hl 0 rfl) ?_
  refine lv_iconst (v := 4) hx hb dX12_feed_32 (by decide) ?_
  refine lv_icmp_ge (tgt := 40) hx hb dX12_feed_33 (by decide) (fun c_13 => ?_) (fun c_13 => ?_)
  · exact (by revert c_13; decide : False).elim
  refine lv_iload_n hx hb dX12_feed_36 rfl (lv_at hl 3 rfl) ?_
  refine lv_goto (tgt := 76) hx hb dX12_feed_37 (by decide) ?_
  refine lv_istore (lv' := [(7, .int v1), (6, .int 1), (0, .ref h0), (1, .int v1), (2, .int v2), (3, .int v3), (4, .int v4), (5, .int v5)]) hx hb dX12_feed_76 hl (by decide) rfl (fun ls hl => ?_)
  refine lv_aload_n hx hb dX12_feed_78 rfl (lv_at hl 2 rfl) ?_
  refine va_get (D := (dC, dI)) (ci := 12) (v := .ref a38) (C := RX12) (T := TX12) (N := 65) hx hb hts im_feed_RX12 hown hK hP 0 rfl rfl 38 (by decide) (hts (.fieldLink RX12 101 "PutBackModel" "tape" "[B") (by decide +kernel)) (fun _ h9 => h9) rfl dX12_feed_79 ?_
  refine lv_aload_n hx hb dX12_feed_82 rfl (lv_at hl 2 rfl) ?_
  refine va_get (D := (dC, dI)) (ci := 12) (v := .int 1) (C := RX12) (T := TX12) (N := 65) hx hb hts im_feed_RX12 hown hK hP 0 rfl rfl 39 (by decide) (hts (.fieldLink RX12 318 "PutBackModel" "taped" "I") (by decide +kernel)) (fun _ h9 => h9) rfl dX12_feed_83 ?_
  refine lv_iload hx hb dX12_feed_86 (lv_at hl 0 rfl) ?_
  refine lv_bipush (v := 24) hx hb dX12_feed_88 (by decide) ?_
  refine lv_bipush (v := 8) hx hb dX12_feed_90 (by decide) ?_
  refine lv_iload hx hb dX12_feed_92 (lv_at hl 1 rfl) ?_
  refine lv_iconst (v := 4) hx hb dX12_feed_94 (by decide) ?_
  refine lv_irem hx hb dX12_feed_95 (by decide) ?_
  refine lv_topi (fun z_14 ez_14 => ?_)
  obtain rfl : z_14 = (1 : Int32) := ez_14.trans (by decide)
  refine lv_imul hx hb dX12_feed_96 ?_
  refine lv_topi (fun z_15 ez_15 => ?_)
  obtain rfl : z_15 = (8 : Int32) := ez_15.trans (by decide)
  refine lv_isub hx hb dX12_feed_97 ?_
  refine lv_topi (fun z_16 ez_16 => ?_)
  obtain rfl : z_16 = (16 : Int32) := ez_16.trans (by decide)
  refine lv_ishr hx hb dX12_feed_98 ?_
  refine lv_topi (fun z_17 ez_17 => ?_)
  refine lv_i2b hx hb dX12_feed_99 rfl ?_
  refine lv_topi (fun z_18 ez_18 => ?_)
  refine va_bast hx hb hK hP hD hS 1 0 rfl rfl (by unfold vp_in; decide) dX12_feed_100 (fun H locs hP hD hS => ?_)
  have hP : va_P (dC, dI) cls [(h0, .inr (12, [.int 0, .ref a1, .ref a2, .ref a3, .ref a4, .ref a5, .int 0, .ref a7, .ref a8, .int 0, .ref a10, .ref a11, .ref a12, .ref a13, .int 0, .ref a15, .ref a16, .ref a17, .ref a18, .ref a19, .ref a20, .ref a21, .ref a22, .int 0, .ref a24, .int 0, .ref a26, .ref a27, .int 0, .ref a29, .ref a30, .ref a31, .ref a32, .ref a33, .int 0, .ref a35, .ref a36, .int 0, .ref a38, .int 1, .int 0, .int 0, .int 0, .int 0, .long 0, .int 0, .int 0, .int (-1), .int (-1), .int 0, .ref a50, .ref a51, .int 0, .int 0, .ref a54, .ref a55, .int (-1), .ref a57, .ref a58, .ref a59, .ref a60, .int 0, .int 0, .int 0, .ref a64])), (a38, .inl (cB, 600, .inl (upd g_10 (1 : Int32).toNatClampNeg (vp_nar .byte z_18))))] H := hP
  have hD : va_D A [(h0, .inr (12, [.int 0, .ref a1, .ref a2, .ref a3, .ref a4, .ref a5, .int 0, .ref a7, .ref a8, .int 0, .ref a10, .ref a11, .ref a12, .ref a13, .int 0, .ref a15, .ref a16, .ref a17, .ref a18, .ref a19, .ref a20, .ref a21, .ref a22, .int 0, .ref a24, .int 0, .ref a26, .ref a27, .int 0, .ref a29, .ref a30, .ref a31, .ref a32, .ref a33, .int 0, .ref a35, .ref a36, .int 0, .ref a38, .int 1, .int 0, .int 0, .int 0, .int 0, .long 0, .int 0, .int 0, .int (-1), .int (-1), .int 0, .ref a50, .ref a51, .int 0, .int 0, .ref a54, .ref a55, .int (-1), .ref a57, .ref a58, .ref a59, .ref a60, .int 0, .int 0, .int 0, .ref a64])), (a38, .inl (cB, 600, .inl (upd g_10 (1 : Int32).toNatClampNeg (vp_nar .byte z_18))))] := hD
  generalize (upd g_10 (1 : Int32).toNatClampNeg (vp_nar .byte z_18)) = g_19 at hP hD
  refine lv_aload_n hx hb dX12_feed_101 rfl (lv_at hl 2 rfl) ?_
  refine lv_aload_n hx hb dX12_feed_102 rfl (lv_at hl 2 rfl) ?_
  refine va_get (D := (dC, dI)) (ci := 12) (v := .int 1) (C := RX12) (T := TX12) (N := 65) hx hb hts im_feed_RX12 hown hK hP 0 rfl rfl 39 (by decide) (hts (.fieldLink RX12 318 "PutBackModel" "taped" "I") (by decide +kernel)) (fun _ h9 => h9) rfl dX12_feed_103 ?_
  refine lv_iconst (v := 1) hx hb dX12_feed_106 (by decide) ?_
  refine lv_iadd hx hb dX12_feed_107 ?_
  refine lv_topi (fun z_20 ez_20 => ?_)
  obtain rfl : z_20 = (2 : Int32) := ez_20.trans (by decide)
  refine va_put (D := (dC, dI)) (ci := 12) (v := .int 2) (ty := .int) (C := RX12) (T := TX12) (N := 65) hx hb hts im_feed_RX12 tyX12 tyX12_ok nmX12 hown hK hP hD hS 0 rfl rfl 39 (by decide) (hts (.fieldLink RX12 318 "PutBackModel" "taped" "I") (by decide +kernel)) (fun _ h9 => h9) rfl (by decide +kernel) rfl rfl (Nat.le_of_ble_eq_true rfl) dX12_feed_108 (fun H locs hP hD hS => ?_)
  have hP : va_P (dC, dI) cls [(h0, .inr (12, [.int 0, .ref a1, .ref a2, .ref a3, .ref a4, .ref a5, .int 0, .ref a7, .ref a8, .int 0, .ref a10, .ref a11, .ref a12, .ref a13, .int 0, .ref a15, .ref a16, .ref a17, .ref a18, .ref a19, .ref a20, .ref a21, .ref a22, .int 0, .ref a24, .int 0, .ref a26, .ref a27, .int 0, .ref a29, .ref a30, .ref a31, .ref a32, .ref a33, .int 0, .ref a35, .ref a36, .int 0, .ref a38, .int 2, .int 0, .int 0, .int 0, .int 0, .long 0, .int 0, .int 0, .int (-1), .int (-1), .int 0, .ref a50, .ref a51, .int 0, .int 0, .ref a54, .ref a55, .int (-1), .ref a57, .ref a58, .ref a59, .ref a60, .int 0, .int 0, .int 0, .ref a64])), (a38, .inl (cB, 600, .inl g_19))] H := hP
  have hD : va_D A [(h0, .inr (12, [.int 0, .ref a1, .ref a2, .ref a3, .ref a4, .ref a5, .int 0, .ref a7, .ref a8, .int 0, .ref a10, .ref a11, .ref a12, .ref a13, .int 0, .ref a15, .ref a16, .ref a17, .ref a18, .ref a19, .ref a20, .ref a21, .ref a22, .int 0, .ref a24, .int 0, .ref a26, .ref a27, .int 0, .ref a29, .ref a30, .ref a31, .ref a32, .ref a33, .int 0, .ref a35, .ref a36, .int 0, .ref a38, .int 2, .int 0, .int 0, .int 0, .int 0, .long 0, .int 0, .int 0, .int (-1), .int (-1), .int 0, .ref a50, .ref a51, .int 0, .int 0, .ref a54, .ref a55, .int (-1), .ref a57, .ref a58, .ref a59, .ref a60, .int 0, .int 0, .int 0, .ref a64])), (a38, .inl (cB, 600, .inl g_19))] := hD
  refine lv_iinc (v := 2) (lv' := [(6, .int 2), (7, .int v1), (0, .ref h0), (1, .int v1), (2, .int v2), (3, .int v3), (4, .int v4), (5, .int v5)]) hx hb dX12_feed_111 hl (k := 1) rfl (by decide) (by decide) rfl (fun ls hl => ?_)
  refine lv_goto (tgt := 23) hx hb dX12_feed_114 (by decide) ?_
  refine lv_iload hx hb dX12_feed_23 (lv_at hl 0 rfl) ?_
  refine lv_bipush (v := 20) hx hb dX12_feed_25 (by decide) ?_
  refine lv_icmp_ge (tgt := 117) hx hb dX12_feed_27 (by decide) (fun c_21 => ?_) (fun c_21 => ?_)
  · exact (by revert c_21; decide : False).elim
  refine lv_iload hx hb dX12_feed_30 (lv_at hl 0 rfl) ?_
  refine lv_iconst (v := 4) hx hb dX12_feed_32 (by decide) ?_
  refine lv_icmp_ge (tgt := 40) hx hb dX12_feed_33 (by decide) (fun c_22 => ?_) (fun c_22 => ?_)
  · exact (by revert c_22; decide : False).elim
  refine lv_iload_n hx hb dX12_feed_36 rfl (lv_at hl 3 rfl) ?_
  refine lv_goto (tgt := 76) hx hb dX12_feed_37 (by decide) ?_
  refine lv_istore (lv' := [(7, .int v1), (6, .int 2), (0, .ref h0), (1, .int v1), (2, .int v2), (3, .int v3), (4, .int v4), (5, .int v5)]) hx hb dX12_feed_76 hl (by decide) rfl (fun ls hl => ?_)
  refine lv_aload_n hx hb dX12_feed_78 rfl (lv_at hl 2 rfl) ?_
  refine va_get (D := (dC, dI)) (ci := 12) (v := .ref a38) (C := RX12) (T := TX12) (N := 65) hx hb hts im_feed_RX12 hown hK hP 0 rfl rfl 38 (by decide) (hts (.fieldLink RX12 101 "PutBackModel" "tape" "[B") (by decide +kernel)) (fun _ h9 => h9) rfl dX12_feed_79 ?_
  refine lv_aload_n hx hb dX12_feed_82 rfl (lv_at hl 2 rfl) ?_
  refine va_get (D := (dC, dI)) (ci := 12) (v := .int 2) (C := RX12) (T := TX12) (N := 65) hx hb hts im_feed_RX12 hown hK hP 0 rfl rfl 39 (by decide) (hts (.fieldLink RX12 318 "PutBackModel" "taped" "I") (by decide +kernel)) (fun _ h9 => h9) rfl dX12_feed_83 ?_
  refine lv_iload hx hb dX12_feed_86 (lv_at hl 0 rfl) ?_
  refine lv_bipush (v := 24) hx hb dX12_feed_88 (by decide) ?_
  refine lv_bipush (v := 8) hx hb dX12_feed_90 (by decide) ?_
  refine lv_iload hx hb dX12_feed_92 (lv_at hl 1 rfl) ?_
  refine lv_iconst (v := 4) hx hb dX12_feed_94 (by decide) ?_
  refine lv_irem hx hb dX12_feed_95 (by decide) ?_
  refine lv_topi (fun z_23 ez_23 => ?_)
  obtain rfl : z_23 = (2 : Int32) := ez_23.trans (by decide)
  refine lv_imul hx hb dX12_feed_96 ?_
  refine lv_topi (fun z_24 ez_24 => ?_)
  obtain rfl : z_24 = (16 : Int32) := ez_24.trans (by decide)
  refine lv_isub hx hb dX12_feed_97 ?_
  refine lv_topi (fun z_25 ez_25 => ?_)
  obtain rfl : z_25 = (8 : Int32) := ez_25.trans (by decide)
  refine lv_ishr hx hb dX12_feed_98 ?_
  refine lv_topi (fun z_26 ez_26 => ?_)
  refine lv_i2b hx hb dX12_feed_99 rfl ?_
  refine lv_topi (fun z_27 ez_27 => ?_)
  refine va_bast hx hb hK hP hD hS 1 0 rfl rfl (by unfold vp_in; decide) dX12_feed_100 (fun H locs hP hD hS => ?_)
  have hP : va_P (dC, dI) cls [(h0, .inr (12, [.int 0, .ref a1, .ref a2, .ref a3, .ref a4, .ref a5, .int 0, .ref a7, .ref a8, .int 0, .ref a10, .ref a11, .ref a12, .ref a13, .int 0, .ref a15, .ref a16, .ref a17, .ref a18, .ref a19, .ref a20, .ref a21, .ref a22, .int 0, .ref a24, .int 0, .ref a26, .ref a27, .int 0, .ref a29, .ref a30, .ref a31, .ref a32, .ref a33, .int 0, .ref a35, .ref a36, .int 0, .ref a38, .int 2, .int 0, .int 0, .int 0, .int 0, .long 0, .int 0, .int 0, .int (-1), .int (-1), .int 0, .ref a50, .ref a51, .int 0, .int 0, .ref a54, .ref a55, .int (-1), .ref a57, .ref a58, .ref a59, .ref a60, .int 0, .int 0, .int 0, .ref a64])), (a38, .inl (cB, 600, .inl (upd g_19 (2 : Int32).toNatClampNeg (vp_nar .byte z_27))))] H := hP
  have hD : va_D A [(h0, .inr (12, [.int 0, .ref a1, .ref a2, .ref a3, .ref a4, .ref a5, .int 0, .ref a7, .ref a8, .int 0, .ref a10, .ref a11, .ref a12, .ref a13, .int 0, .ref a15, .ref a16, .ref a17, .ref a18, .ref a19, .ref a20, .ref a21, .ref a22, .int 0, .ref a24, .int 0, .ref a26, .ref a27, .int 0, .ref a29, .ref a30, .ref a31, .ref a32, .ref a33, .int 0, .ref a35, .ref a36, .int 0, .ref a38, .int 2, .int 0, .int 0, .int 0, .int 0, .long 0, .int 0, .int 0, .int (-1), .int (-1), .int 0, .ref a50, .ref a51, .int 0, .int 0, .ref a54, .ref a55, .int (-1), .ref a57, .ref a58, .ref a59, .ref a60, .int 0, .int 0, .int 0, .ref a64])), (a38, .inl (cB, 600, .inl (upd g_19 (2 : Int32).toNatClampNeg (vp_nar .byte z_27))))] := hD
  generalize (upd g_19 (2 : Int32).toNatClampNeg (vp_nar .byte z_27)) = g_28 at hP hD
  refine lv_aload_n hx hb dX12_feed_101 rfl (lv_at hl 2 rfl) ?_
  refine lv_aload_n hx hb dX12_feed_102 rfl (lv_at hl 2 rfl) ?_
  refine va_get (D := (dC, dI)) (ci := 12) (v := .int 2) (C := RX12) (T := TX12) (N := 65) hx hb hts im_feed_RX12 hown hK hP 0 rfl rfl 39 (by decide) (hts (.fieldLink RX12 318 "PutBackModel" "taped" "I") (by decide +kernel)) (fun _ h9 => h9) rfl dX12_feed_103 ?_
  refine lv_iconst (v := 1) hx hb dX12_feed_106 (by decide) ?_
  refine lv_iadd hx hb dX12_feed_107 ?_
  refine lv_topi (fun z_29 ez_29 => ?_)
  obtain rfl : z_29 = (3 : Int32) := ez_29.trans (by decide)
  refine va_put (D := (dC, dI)) (ci := 12) (v := .int 3) (ty := .int) (C := RX12) (T := TX12) (N := 65) hx hb hts im_feed_RX12 tyX12 tyX12_ok nmX12 hown hK hP hD hS 0 rfl rfl 39 (by decide) (hts (.fieldLink RX12 318 "PutBackModel" "taped" "I") (by decide +kernel)) (fun _ h9 => h9) rfl (by decide +kernel) rfl rfl (Nat.le_of_ble_eq_true rfl) dX12_feed_108 (fun H locs hP hD hS => ?_)
  have hP : va_P (dC, dI) cls [(h0, .inr (12, [.int 0, .ref a1, .ref a2, .ref a3, .ref a4, .ref a5, .int 0, .ref a7, .ref a8, .int 0, .ref a10, .ref a11, .ref a12, .ref a13, .int 0, .ref a15, .ref a16, .ref a17, .ref a18, .ref a19, .ref a20, .ref a21, .ref a22, .int 0, .ref a24, .int 0, .ref a26, .ref a27, .int 0, .ref a29, .ref a30, .ref a31, .ref a32, .ref a33, .int 0, .ref a35, .ref a36, .int 0, .ref a38, .int 3, .int 0, .int 0, .int 0, .int 0, .long 0, .int 0, .int 0, .int (-1), .int (-1), .int 0, .ref a50, .ref a51, .int 0, .int 0, .ref a54, .ref a55, .int (-1), .ref a57, .ref a58, .ref a59, .ref a60, .int 0, .int 0, .int 0, .ref a64])), (a38, .inl (cB, 600, .inl g_28))] H := hP
  have hD : va_D A [(h0, .inr (12, [.int 0, .ref a1, .ref a2, .ref a3, .ref a4, .ref a5, .int 0, .ref a7, .ref a8, .int 0, .ref a10, .ref a11, .ref a12, .ref a13, .int 0, .ref a15, .ref a16, .ref a17, .ref a18, .ref a19, .ref a20, .ref a21, .ref a22, .int 0, .ref a24, .int 0, .ref a26, .ref a27, .int 0, .ref a29, .ref a30, .ref a31, .ref a32, .ref a33, .int 0, .ref a35, .ref a36, .int 0, .ref a38, .int 3, .int 0, .int 0, .int 0, .int 0, .long 0, .int 0, .int 0, .int (-1), .int (-1), .int 0, .ref a50, .ref a51, .int 0, .int 0, .ref a54, .ref a55, .int (-1), .ref a57, .ref a58, .ref a59, .ref a60, .int 0, .int 0, .int 0, .ref a64])), (a38, .inl (cB, 600, .inl g_28))] := hD
  refine lv_iinc (v := 3) (lv' := [(6, .int 3), (7, .int v1), (0, .ref h0), (1, .int v1), (2, .int v2), (3, .int v3), (4, .int v4), (5, .int v5)]) hx hb dX12_feed_111 hl (k := 1) rfl (by decide) (by decide) rfl (fun ls hl => ?_)
  refine lv_goto (tgt := 23) hx hb dX12_feed_114 (by decide) ?_
  refine lv_iload hx hb dX12_feed_23 (lv_at hl 0 rfl) ?_
  refine lv_bipush (v := 20) hx hb dX12_feed_25 (by decide) ?_
  refine lv_icmp_ge (tgt := 117) hx hb dX12_feed_27 (by decide) (fun c_30 => ?_) (fun c_30 => ?_)
  · exact (by revert c_30; decide : False).elim
  refine lv_iload hx hb dX12_feed_30 (lv_at hl 0 rfl) ?_
  refine lv_iconst (v := 4) hx hb dX12_feed_32 (by decide) ?_
  refine lv_icmp_ge (tgt := 40) hx hb dX12_feed_33 (by decide) (fun c_31 => ?_) (fun c_31 => ?_)
  · exact (by revert c_31; decide : False).elim
  refine lv_iload_n hx hb dX12_feed_36 rfl (lv_at hl 3 rfl) ?_
  refine lv_goto (tgt := 76) hx hb dX12_feed_37 (by decide) ?_
  refine lv_istore (lv' := [(7, .int v1), (6, .int 3), (0, .ref h0), (1, .int v1), (2, .int v2), (3, .int v3), (4, .int v4), (5, .int v5)]) hx hb dX12_feed_76 hl (by decide) rfl (fun ls hl => ?_)
  refine lv_aload_n hx hb dX12_feed_78 rfl (lv_at hl 2 rfl) ?_
  refine va_get (D := (dC, dI)) (ci := 12) (v := .ref a38) (C := RX12) (T := TX12) (N := 65) hx hb hts im_feed_RX12 hown hK hP 0 rfl rfl 38 (by decide) (hts (.fieldLink RX12 101 "PutBackModel" "tape" "[B") (by decide +kernel)) (fun _ h9 => h9) rfl dX12_feed_79 ?_
  refine lv_aload_n hx hb dX12_feed_82 rfl (lv_at hl 2 rfl) ?_
  refine va_get (D := (dC, dI)) (ci := 12) (v := .int 3) (C := RX12) (T := TX12) (N := 65) hx hb hts im_feed_RX12 hown hK hP 0 rfl rfl 39 (by decide) (hts (.fieldLink RX12 318 "PutBackModel" "taped" "I") (by decide +kernel)) (fun _ h9 => h9) rfl dX12_feed_83 ?_
  refine lv_iload hx hb dX12_feed_86 (lv_at hl 0 rfl) ?_
  refine lv_bipush (v := 24) hx hb dX12_feed_88 (by decide) ?_
  refine lv_bipush (v := 8) hx hb dX12_feed_90 (by decide) ?_
  refine lv_iload hx hb dX12_feed_92 (lv_at hl 1 rfl) ?_
  refine lv_iconst (v := 4) hx hb dX12_feed_94 (by decide) ?_
  refine lv_irem hx hb dX12_feed_95 (by decide) ?_
  refine lv_topi (fun z_32 ez_32 => ?_)
  obtain rfl : z_32 = (3 : Int32) := ez_32.trans (by decide)
  refine lv_imul hx hb dX12_feed_96 ?_
  refine lv_topi (fun z_33 ez_33 => ?_)
  obtain rfl : z_33 = (24 : Int32) := ez_33.trans (by decide)
  refine lv_isub hx hb dX12_feed_97 ?_
  refine lv_topi (fun z_34 ez_34 => ?_)
  obtain rfl : z_34 = (0 : Int32) := ez_34.trans (by decide)
  refine lv_ishr hx hb dX12_feed_98 ?_
  refine lv_topi (fun z_35 ez_35 => ?_)
  refine lv_i2b hx hb dX12_feed_99 rfl ?_
  refine lv_topi (fun z_36 ez_36 => ?_)
  refine va_bast hx hb hK hP hD hS 1 0 rfl rfl (by unfold vp_in; decide) dX12_feed_100 (fun H locs hP hD hS => ?_)
  have hP : va_P (dC, dI) cls [(h0, .inr (12, [.int 0, .ref a1, .ref a2, .ref a3, .ref a4, .ref a5, .int 0, .ref a7, .ref a8, .int 0, .ref a10, .ref a11, .ref a12, .ref a13, .int 0, .ref a15, .ref a16, .ref a17, .ref a18, .ref a19, .ref a20, .ref a21, .ref a22, .int 0, .ref a24, .int 0, .ref a26, .ref a27, .int 0, .ref a29, .ref a30, .ref a31, .ref a32, .ref a33, .int 0, .ref a35, .ref a36, .int 0, .ref a38, .int 3, .int 0, .int 0, .int 0, .int 0, .long 0, .int 0, .int 0, .int (-1), .int (-1), .int 0, .ref a50, .ref a51, .int 0, .int 0, .ref a54, .ref a55, .int (-1), .ref a57, .ref a58, .ref a59, .ref a60, .int 0, .int 0, .int 0, .ref a64])), (a38, .inl (cB, 600, .inl (upd g_28 (3 : Int32).toNatClampNeg (vp_nar .byte z_36))))] H := hP
  have hD : va_D A [(h0, .inr (12, [.int 0, .ref a1, .ref a2, .ref a3, .ref a4, .ref a5, .int 0, .ref a7, .ref a8, .int 0, .ref a10, .ref a11, .ref a12, .ref a13, .int 0, .ref a15, .ref a16, .ref a17, .ref a18, .ref a19, .ref a20, .ref a21, .ref a22, .int 0, .ref a24, .int 0, .ref a26, .ref a27, .int 0, .ref a29, .ref a30, .ref a31, .ref a32, .ref a33, .int 0, .ref a35, .ref a36, .int 0, .ref a38, .int 3, .int 0, .int 0, .int 0, .int 0, .long 0, .int 0, .int 0, .int (-1), .int (-1), .int 0, .ref a50, .ref a51, .int 0, .int 0, .ref a54, .ref a55, .int (-1), .ref a57, .ref a58, .ref a59, .ref a60, .int 0, .int 0, .int 0, .ref a64])), (a38, .inl (cB, 600, .inl (upd g_28 (3 : Int32).toNatClampNeg (vp_nar .byte z_36))))] := hD
  generalize (upd g_28 (3 : Int32).toNatClampNeg (vp_nar .byte z_36)) = g_37 at hP hD
  refine lv_aload_n hx hb dX12_feed_101 rfl (lv_at hl 2 rfl) ?_
  refine lv_aload_n hx hb dX12_feed_102 rfl (lv_at hl 2 rfl) ?_
  refine va_get (D := (dC, dI)) (ci := 12) (v := .int 3) (C := RX12) (T := TX12) (N := 65) hx hb hts im_feed_RX12 hown hK hP 0 rfl rfl 39 (by decide) (hts (.fieldLink RX12 318 "PutBackModel" "taped" "I") (by decide +kernel)) (fun _ h9 => h9) rfl dX12_feed_103 ?_
  refine lv_iconst (v := 1) hx hb dX12_feed_106 (by decide) ?_
  refine lv_iadd hx hb dX12_feed_107 ?_
  refine lv_topi (fun z_38 ez_38 => ?_)
  obtain rfl : z_38 = (4 : Int32) := ez_38.trans (by decide)
  refine va_put (D := (dC, dI)) (ci := 12) (v := .int 4) (ty := .int) (C := RX12) (T := TX12) (N := 65) hx hb hts im_feed_RX12 tyX12 tyX12_ok nmX12 hown hK hP hD hS 0 rfl rfl 39 (by decide) (hts (.fieldLink RX12 318 "PutBackModel" "taped" "I") (by decide +kernel)) (fun _ h9 => h9) rfl (by decide +kernel) rfl rfl (Nat.le_of_ble_eq_true rfl) dX12_feed_108 (fun H locs hP hD hS => ?_)
  have hP : va_P (dC, dI) cls [(h0, .inr (12, [.int 0, .ref a1, .ref a2, .ref a3, .ref a4, .ref a5, .int 0, .ref a7, .ref a8, .int 0, .ref a10, .ref a11, .ref a12, .ref a13, .int 0, .ref a15, .ref a16, .ref a17, .ref a18, .ref a19, .ref a20, .ref a21, .ref a22, .int 0, .ref a24, .int 0, .ref a26, .ref a27, .int 0, .ref a29, .ref a30, .ref a31, .ref a32, .ref a33, .int 0, .ref a35, .ref a36, .int 0, .ref a38, .int 4, .int 0, .int 0, .int 0, .int 0, .long 0, .int 0, .int 0, .int (-1), .int (-1), .int 0, .ref a50, .ref a51, .int 0, .int 0, .ref a54, .ref a55, .int (-1), .ref a57, .ref a58, .ref a59, .ref a60, .int 0, .int 0, .int 0, .ref a64])), (a38, .inl (cB, 600, .inl g_37))] H := hP
  have hD : va_D A [(h0, .inr (12, [.int 0, .ref a1, .ref a2, .ref a3, .ref a4, .ref a5, .int 0, .ref a7, .ref a8, .int 0, .ref a10, .ref a11, .ref a12, .ref a13, .int 0, .ref a15, .ref a16, .ref a17, .ref a18, .ref a19, .ref a20, .ref a21, .ref a22, .int 0, .ref a24, .int 0, .ref a26, .ref a27, .int 0, .ref a29, .ref a30, .ref a31, .ref a32, .ref a33, .int 0, .ref a35, .ref a36, .int 0, .ref a38, .int 4, .int 0, .int 0, .int 0, .int 0, .long 0, .int 0, .int 0, .int (-1), .int (-1), .int 0, .ref a50, .ref a51, .int 0, .int 0, .ref a54, .ref a55, .int (-1), .ref a57, .ref a58, .ref a59, .ref a60, .int 0, .int 0, .int 0, .ref a64])), (a38, .inl (cB, 600, .inl g_37))] := hD
  refine lv_iinc (v := 4) (lv' := [(6, .int 4), (7, .int v1), (0, .ref h0), (1, .int v1), (2, .int v2), (3, .int v3), (4, .int v4), (5, .int v5)]) hx hb dX12_feed_111 hl (k := 1) rfl (by decide) (by decide) rfl (fun ls hl => ?_)
  refine lv_goto (tgt := 23) hx hb dX12_feed_114 (by decide) ?_
  refine lv_iload hx hb dX12_feed_23 (lv_at hl 0 rfl) ?_
  refine lv_bipush (v := 20) hx hb dX12_feed_25 (by decide) ?_
  refine lv_icmp_ge (tgt := 117) hx hb dX12_feed_27 (by decide) (fun c_39 => ?_) (fun c_39 => ?_)
  · exact (by revert c_39; decide : False).elim
  refine lv_iload hx hb dX12_feed_30 (lv_at hl 0 rfl) ?_
  refine lv_iconst (v := 4) hx hb dX12_feed_32 (by decide) ?_
  refine lv_icmp_ge (tgt := 40) hx hb dX12_feed_33 (by decide) (fun c_40 => ?_) (fun c_40 => ?_)
  rotate_left
  · exact (by revert c_40; decide : False).elim
  refine lv_iload hx hb dX12_feed_40 (lv_at hl 0 rfl) ?_
  refine lv_bipush (v := 8) hx hb dX12_feed_42 (by decide) ?_
  refine lv_icmp_ge (tgt := 51) hx hb dX12_feed_44 (by decide) (fun c_41 => ?_) (fun c_41 => ?_)
  · exact (by revert c_41; decide : False).elim
  refine lv_iload_n hx hb dX12_feed_47 rfl (lv_at hl 4 rfl) ?_
  refine lv_goto (tgt := 76) hx hb dX12_feed_48 (by decide) ?_
  refine lv_istore (lv' := [(7, .int v2), (6, .int 4), (0, .ref h0), (1, .int v1), (2, .int v2), (3, .int v3), (4, .int v4), (5, .int v5)]) hx hb dX12_feed_76 hl (by decide) rfl (fun ls hl => ?_)
  refine lv_aload_n hx hb dX12_feed_78 rfl (lv_at hl 2 rfl) ?_
  refine va_get (D := (dC, dI)) (ci := 12) (v := .ref a38) (C := RX12) (T := TX12) (N := 65) hx hb hts im_feed_RX12 hown hK hP 0 rfl rfl 38 (by decide) (hts (.fieldLink RX12 101 "PutBackModel" "tape" "[B") (by decide +kernel)) (fun _ h9 => h9) rfl dX12_feed_79 ?_
  refine lv_aload_n hx hb dX12_feed_82 rfl (lv_at hl 2 rfl) ?_
  refine va_get (D := (dC, dI)) (ci := 12) (v := .int 4) (C := RX12) (T := TX12) (N := 65) hx hb hts im_feed_RX12 hown hK hP 0 rfl rfl 39 (by decide) (hts (.fieldLink RX12 318 "PutBackModel" "taped" "I") (by decide +kernel)) (fun _ h9 => h9) rfl dX12_feed_83 ?_
  refine lv_iload hx hb dX12_feed_86 (lv_at hl 0 rfl) ?_
  refine lv_bipush (v := 24) hx hb dX12_feed_88 (by decide) ?_
  refine lv_bipush (v := 8) hx hb dX12_feed_90 (by decide) ?_
  refine lv_iload hx hb dX12_feed_92 (lv_at hl 1 rfl) ?_
  refine lv_iconst (v := 4) hx hb dX12_feed_94 (by decide) ?_
  refine lv_irem hx hb dX12_feed_95 (by decide) ?_
  refine lv_topi (fun z_42 ez_42 => ?_)
  obtain rfl : z_42 = (0 : Int32) := ez_42.trans (by decide)
  refine lv_imul hx hb dX12_feed_96 ?_
  refine lv_topi (fun z_43 ez_43 => ?_)
  obtain rfl : z_43 = (0 : Int32) := ez_43.trans (by decide)
  refine lv_isub hx hb dX12_feed_97 ?_
  refine lv_topi (fun z_44 ez_44 => ?_)
  obtain rfl : z_44 = (24 : Int32) := ez_44.trans (by decide)
  refine lv_ishr hx hb dX12_feed_98 ?_
  refine lv_topi (fun z_45 ez_45 => ?_)
  refine lv_i2b hx hb dX12_feed_99 rfl ?_
  refine lv_topi (fun z_46 ez_46 => ?_)
  refine va_bast hx hb hK hP hD hS 1 0 rfl rfl (by unfold vp_in; decide) dX12_feed_100 (fun H locs hP hD hS => ?_)
  have hP : va_P (dC, dI) cls [(h0, .inr (12, [.int 0, .ref a1, .ref a2, .ref a3, .ref a4, .ref a5, .int 0, .ref a7, .ref a8, .int 0, .ref a10, .ref a11, .ref a12, .ref a13, .int 0, .ref a15, .ref a16, .ref a17, .ref a18, .ref a19, .ref a20, .ref a21, .ref a22, .int 0, .ref a24, .int 0, .ref a26, .ref a27, .int 0, .ref a29, .ref a30, .ref a31, .ref a32, .ref a33, .int 0, .ref a35, .ref a36, .int 0, .ref a38, .int 4, .int 0, .int 0, .int 0, .int 0, .long 0, .int 0, .int 0, .int (-1), .int (-1), .int 0, .ref a50, .ref a51, .int 0, .int 0, .ref a54, .ref a55, .int (-1), .ref a57, .ref a58, .ref a59, .ref a60, .int 0, .int 0, .int 0, .ref a64])), (a38, .inl (cB, 600, .inl (upd g_37 (4 : Int32).toNatClampNeg (vp_nar .byte z_46))))] H := hP
  have hD : va_D A [(h0, .inr (12, [.int 0, .ref a1, .ref a2, .ref a3, .ref a4, .ref a5, .int 0, .ref a7, .ref a8, .int 0, .ref a10, .ref a11, .ref a12, .ref a13, .int 0, .ref a15, .ref a16, .ref a17, .ref a18, .ref a19, .ref a20, .ref a21, .ref a22, .int 0, .ref a24, .int 0, .ref a26, .ref a27, .int 0, .ref a29, .ref a30, .ref a31, .ref a32, .ref a33, .int 0, .ref a35, .ref a36, .int 0, .ref a38, .int 4, .int 0, .int 0, .int 0, .int 0, .long 0, .int 0, .int 0, .int (-1), .int (-1), .int 0, .ref a50, .ref a51, .int 0, .int 0, .ref a54, .ref a55, .int (-1), .ref a57, .ref a58, .ref a59, .ref a60, .int 0, .int 0, .int 0, .ref a64])), (a38, .inl (cB, 600, .inl (upd g_37 (4 : Int32).toNatClampNeg (vp_nar .byte z_46))))] := hD
  generalize (upd g_37 (4 : Int32).toNatClampNeg (vp_nar .byte z_46)) = g_47 at hP hD
  refine lv_aload_n hx hb dX12_feed_101 rfl (lv_at hl 2 rfl) ?_
  refine lv_aload_n hx hb dX12_feed_102 rfl (lv_at hl 2 rfl) ?_
  refine va_get (D := (dC, dI)) (ci := 12) (v := .int 4) (C := RX12) (T := TX12) (N := 65) hx hb hts im_feed_RX12 hown hK hP 0 rfl rfl 39 (by decide) (hts (.fieldLink RX12 318 "PutBackModel" "taped" "I") (by decide +kernel)) (fun _ h9 => h9) rfl dX12_feed_103 ?_
  refine lv_iconst (v := 1) hx hb dX12_feed_106 (by decide) ?_
  refine lv_iadd hx hb dX12_feed_107 ?_
  refine lv_topi (fun z_48 ez_48 => ?_)
  obtain rfl : z_48 = (5 : Int32) := ez_48.trans (by decide)
  refine va_put (D := (dC, dI)) (ci := 12) (v := .int 5) (ty := .int) (C := RX12) (T := TX12) (N := 65) hx hb hts im_feed_RX12 tyX12 tyX12_ok nmX12 hown hK hP hD hS 0 rfl rfl 39 (by decide) (hts (.fieldLink RX12 318 "PutBackModel" "taped" "I") (by decide +kernel)) (fun _ h9 => h9) rfl (by decide +kernel) rfl rfl (Nat.le_of_ble_eq_true rfl) dX12_feed_108 (fun H locs hP hD hS => ?_)
  have hP : va_P (dC, dI) cls [(h0, .inr (12, [.int 0, .ref a1, .ref a2, .ref a3, .ref a4, .ref a5, .int 0, .ref a7, .ref a8, .int 0, .ref a10, .ref a11, .ref a12, .ref a13, .int 0, .ref a15, .ref a16, .ref a17, .ref a18, .ref a19, .ref a20, .ref a21, .ref a22, .int 0, .ref a24, .int 0, .ref a26, .ref a27, .int 0, .ref a29, .ref a30, .ref a31, .ref a32, .ref a33, .int 0, .ref a35, .ref a36, .int 0, .ref a38, .int 5, .int 0, .int 0, .int 0, .int 0, .long 0, .int 0, .int 0, .int (-1), .int (-1), .int 0, .ref a50, .ref a51, .int 0, .int 0, .ref a54, .ref a55, .int (-1), .ref a57, .ref a58, .ref a59, .ref a60, .int 0, .int 0, .int 0, .ref a64])), (a38, .inl (cB, 600, .inl g_47))] H := hP
  have hD : va_D A [(h0, .inr (12, [.int 0, .ref a1, .ref a2, .ref a3, .ref a4, .ref a5, .int 0, .ref a7, .ref a8, .int 0, .ref a10, .ref a11, .ref a12, .ref a13, .int 0, .ref a15, .ref a16, .ref a17, .ref a18, .ref a19, .ref a20, .ref a21, .ref a22, .int 0, .ref a24, .int 0, .ref a26, .ref a27, .int 0, .ref a29, .ref a30, .ref a31, .ref a32, .ref a33, .int 0, .ref a35, .ref a36, .int 0, .ref a38, .int 5, .int 0, .int 0, .int 0, .int 0, .long 0, .int 0, .int 0, .int (-1), .int (-1), .int 0, .ref a50, .ref a51, .int 0, .int 0, .ref a54, .ref a55, .int (-1), .ref a57, .ref a58, .ref a59, .ref a60, .int 0, .int 0, .int 0, .ref a64])), (a38, .inl (cB, 600, .inl g_47))] := hD
  refine lv_iinc (v := 5) (lv' := [(6, .int 5), (7, .int v2), (0, .ref h0), (1, .int v1), (2, .int v2), (3, .int v3), (4, .int v4), (5, .int v5)]) hx hb dX12_feed_111 hl (k := 1) rfl (by decide) (by decide) rfl (fun ls hl => ?_)
  refine lv_goto (tgt := 23) hx hb dX12_feed_114 (by decide) ?_
  refine lv_iload hx hb dX12_feed_23 (lv_at hl 0 rfl) ?_
  refine lv_bipush (v := 20) hx hb dX12_feed_25 (by decide) ?_
  refine lv_icmp_ge (tgt := 117) hx hb dX12_feed_27 (by decide) (fun c_49 => ?_) (fun c_49 => ?_)
  · exact (by revert c_49; decide : False).elim
  refine lv_iload hx hb dX12_feed_30 (lv_at hl 0 rfl) ?_
  refine lv_iconst (v := 4) hx hb dX12_feed_32 (by decide) ?_
  refine lv_icmp_ge (tgt := 40) hx hb dX12_feed_33 (by decide) (fun c_50 => ?_) (fun c_50 => ?_)
  rotate_left
  · exact (by revert c_50; decide : False).elim
  refine lv_iload hx hb dX12_feed_40 (lv_at hl 0 rfl) ?_
  refine lv_bipush (v := 8) hx hb dX12_feed_42 (by decide) ?_
  refine lv_icmp_ge (tgt := 51) hx hb dX12_feed_44 (by decide) (fun c_51 => ?_) (fun c_51 => ?_)
  · exact (by revert c_51; decide : False).elim
  refine lv_iload_n hx hb dX12_feed_47 rfl (lv_at hl 4 rfl) ?_
  refine lv_goto (tgt := 76) hx hb dX12_feed_48 (by decide) ?_
  refine lv_istore (lv' := [(7, .int v2), (6, .int 5), (0, .ref h0), (1, .int v1), (2, .int v2), (3, .int v3), (4, .int v4), (5, .int v5)]) hx hb dX12_feed_76 hl (by decide) rfl (fun ls hl => ?_)
  refine lv_aload_n hx hb dX12_feed_78 rfl (lv_at hl 2 rfl) ?_
  refine va_get (D := (dC, dI)) (ci := 12) (v := .ref a38) (C := RX12) (T := TX12) (N := 65) hx hb hts im_feed_RX12 hown hK hP 0 rfl rfl 38 (by decide) (hts (.fieldLink RX12 101 "PutBackModel" "tape" "[B") (by decide +kernel)) (fun _ h9 => h9) rfl dX12_feed_79 ?_
  refine lv_aload_n hx hb dX12_feed_82 rfl (lv_at hl 2 rfl) ?_
  refine va_get (D := (dC, dI)) (ci := 12) (v := .int 5) (C := RX12) (T := TX12) (N := 65) hx hb hts im_feed_RX12 hown hK hP 0 rfl rfl 39 (by decide) (hts (.fieldLink RX12 318 "PutBackModel" "taped" "I") (by decide +kernel)) (fun _ h9 => h9) rfl dX12_feed_83 ?_
  refine lv_iload hx hb dX12_feed_86 (lv_at hl 0 rfl) ?_
  refine lv_bipush (v := 24) hx hb dX12_feed_88 (by decide) ?_
  refine lv_bipush (v := 8) hx hb dX12_feed_90 (by decide) ?_
  refine lv_iload hx hb dX12_feed_92 (lv_at hl 1 rfl) ?_
  refine lv_iconst (v := 4) hx hb dX12_feed_94 (by decide) ?_
  refine lv_irem hx hb dX12_feed_95 (by decide) ?_
  refine lv_topi (fun z_52 ez_52 => ?_)
  obtain rfl : z_52 = (1 : Int32) := ez_52.trans (by decide)
  refine lv_imul hx hb dX12_feed_96 ?_
  refine lv_topi (fun z_53 ez_53 => ?_)
  obtain rfl : z_53 = (8 : Int32) := ez_53.trans (by decide)
  refine lv_isub hx hb dX12_feed_97 ?_
  refine lv_topi (fun z_54 ez_54 => ?_)
  obtain rfl : z_54 = (16 : Int32) := ez_54.trans (by decide)
  refine lv_ishr hx hb dX12_feed_98 ?_
  refine lv_topi (fun z_55 ez_55 => ?_)
  refine lv_i2b hx hb dX12_feed_99 rfl ?_
  refine lv_topi (fun z_56 ez_56 => ?_)
  refine va_bast hx hb hK hP hD hS 1 0 rfl rfl (by unfold vp_in; decide) dX12_feed_100 (fun H locs hP hD hS => ?_)
  have hP : va_P (dC, dI) cls [(h0, .inr (12, [.int 0, .ref a1, .ref a2, .ref a3, .ref a4, .ref a5, .int 0, .ref a7, .ref a8, .int 0, .ref a10, .ref a11, .ref a12, .ref a13, .int 0, .ref a15, .ref a16, .ref a17, .ref a18, .ref a19, .ref a20, .ref a21, .ref a22, .int 0, .ref a24, .int 0, .ref a26, .ref a27, .int 0, .ref a29, .ref a30, .ref a31, .ref a32, .ref a33, .int 0, .ref a35, .ref a36, .int 0, .ref a38, .int 5, .int 0, .int 0, .int 0, .int 0, .long 0, .int 0, .int 0, .int (-1), .int (-1), .int 0, .ref a50, .ref a51, .int 0, .int 0, .ref a54, .ref a55, .int (-1), .ref a57, .ref a58, .ref a59, .ref a60, .int 0, .int 0, .int 0, .ref a64])), (a38, .inl (cB, 600, .inl (upd g_47 (5 : Int32).toNatClampNeg (vp_nar .byte z_56))))] H := hP
  have hD : va_D A [(h0, .inr (12, [.int 0, .ref a1, .ref a2, .ref a3, .ref a4, .ref a5, .int 0, .ref a7, .ref a8, .int 0, .ref a10, .ref a11, .ref a12, .ref a13, .int 0, .ref a15, .ref a16, .ref a17, .ref a18, .ref a19, .ref a20, .ref a21, .ref a22, .int 0, .ref a24, .int 0, .ref a26, .ref a27, .int 0, .ref a29, .ref a30, .ref a31, .ref a32, .ref a33, .int 0, .ref a35, .ref a36, .int 0, .ref a38, .int 5, .int 0, .int 0, .int 0, .int 0, .long 0, .int 0, .int 0, .int (-1), .int (-1), .int 0, .ref a50, .ref a51, .int 0, .int 0, .ref a54, .ref a55, .int (-1), .ref a57, .ref a58, .ref a59, .ref a60, .int 0, .int 0, .int 0, .ref a64])), (a38, .inl (cB, 600, .inl (upd g_47 (5 : Int32).toNatClampNeg (vp_nar .byte z_56))))] := hD
  generalize (upd g_47 (5 : Int32).toNatClampNeg (vp_nar .byte z_56)) = g_57 at hP hD
  refine lv_aload_n hx hb dX12_feed_101 rfl (lv_at hl 2 rfl) ?_
  refine lv_aload_n hx hb dX12_feed_102 rfl (lv_at hl 2 rfl) ?_
  refine va_get (D := (dC, dI)) (ci := 12) (v := .int 5) (C := RX12) (T := TX12) (N := 65) hx hb hts im_feed_RX12 hown hK hP 0 rfl rfl 39 (by decide) (hts (.fieldLink RX12 318 "PutBackModel" "taped" "I") (by decide +kernel)) (fun _ h9 => h9) rfl dX12_feed_103 ?_
  refine lv_iconst (v := 1) hx hb dX12_feed_106 (by decide) ?_
  refine lv_iadd hx hb dX12_feed_107 ?_
  refine lv_topi (fun z_58 ez_58 => ?_)
  obtain rfl : z_58 = (6 : Int32) := ez_58.trans (by decide)
  refine va_put (D := (dC, dI)) (ci := 12) (v := .int 6) (ty := .int) (C := RX12) (T := TX12) (N := 65) hx hb hts im_feed_RX12 tyX12 tyX12_ok nmX12 hown hK hP hD hS 0 rfl rfl 39 (by decide) (hts (.fieldLink RX12 318 "PutBackModel" "taped" "I") (by decide +kernel)) (fun _ h9 => h9) rfl (by decide +kernel) rfl rfl (Nat.le_of_ble_eq_true rfl) dX12_feed_108 (fun H locs hP hD hS => ?_)
  have hP : va_P (dC, dI) cls [(h0, .inr (12, [.int 0, .ref a1, .ref a2, .ref a3, .ref a4, .ref a5, .int 0, .ref a7, .ref a8, .int 0, .ref a10, .ref a11, .ref a12, .ref a13, .int 0, .ref a15, .ref a16, .ref a17, .ref a18, .ref a19, .ref a20, .ref a21, .ref a22, .int 0, .ref a24, .int 0, .ref a26, .ref a27, .int 0, .ref a29, .ref a30, .ref a31, .ref a32, .ref a33, .int 0, .ref a35, .ref a36, .int 0, .ref a38, .int 6, .int 0, .int 0, .int 0, .int 0, .long 0, .int 0, .int 0, .int (-1), .int (-1), .int 0, .ref a50, .ref a51, .int 0, .int 0, .ref a54, .ref a55, .int (-1), .ref a57, .ref a58, .ref a59, .ref a60, .int 0, .int 0, .int 0, .ref a64])), (a38, .inl (cB, 600, .inl g_57))] H := hP
  have hD : va_D A [(h0, .inr (12, [.int 0, .ref a1, .ref a2, .ref a3, .ref a4, .ref a5, .int 0, .ref a7, .ref a8, .int 0, .ref a10, .ref a11, .ref a12, .ref a13, .int 0, .ref a15, .ref a16, .ref a17, .ref a18, .ref a19, .ref a20, .ref a21, .ref a22, .int 0, .ref a24, .int 0, .ref a26, .ref a27, .int 0, .ref a29, .ref a30, .ref a31, .ref a32, .ref a33, .int 0, .ref a35, .ref a36, .int 0, .ref a38, .int 6, .int 0, .int 0, .int 0, .int 0, .long 0, .int 0, .int 0, .int (-1), .int (-1), .int 0, .ref a50, .ref a51, .int 0, .int 0, .ref a54, .ref a55, .int (-1), .ref a57, .ref a58, .ref a59, .ref a60, .int 0, .int 0, .int 0, .ref a64])), (a38, .inl (cB, 600, .inl g_57))] := hD
  refine lv_iinc (v := 6) (lv' := [(6, .int 6), (7, .int v2), (0, .ref h0), (1, .int v1), (2, .int v2), (3, .int v3), (4, .int v4), (5, .int v5)]) hx hb dX12_feed_111 hl (k := 1) rfl (by decide) (by decide) rfl (fun ls hl => ?_)
  refine lv_goto (tgt := 23) hx hb dX12_feed_114 (by decide) ?_
  refine lv_iload hx hb dX12_feed_23 (lv_at hl 0 rfl) ?_
  refine lv_bipush (v := 20) hx hb dX12_feed_25 (by decide) ?_
  refine lv_icmp_ge (tgt := 117) hx hb dX12_feed_27 (by decide) (fun c_59 => ?_) (fun c_59 => ?_)
  · exact (by revert c_59; decide : False).elim
  refine lv_iload hx hb dX12_feed_30 (lv_at hl 0 rfl) ?_
  refine lv_iconst (v := 4) hx hb dX12_feed_32 (by decide) ?_
  refine lv_icmp_ge (tgt := 40) hx hb dX12_feed_33 (by decide) (fun c_60 => ?_) (fun c_60 => ?_)
  rotate_left
  · exact (by revert c_60; decide : False).elim
  refine lv_iload hx hb dX12_feed_40 (lv_at hl 0 rfl) ?_
  refine lv_bipush (v := 8) hx hb dX12_feed_42 (by decide) ?_
  refine lv_icmp_ge (tgt := 51) hx hb dX12_feed_44 (by decide) (fun c_61 => ?_) (fun c_61 => ?_)
  · exact (by revert c_61; decide : False).elim
  refine lv_iload_n hx hb dX12_feed_47 rfl (lv_at hl 4 rfl) ?_
  refine lv_goto (tgt := 76) hx hb dX12_feed_48 (by decide) ?_
  refine lv_istore (lv' := [(7, .int v2), (6, .int 6), (0, .ref h0), (1, .int v1), (2, .int v2), (3, .int v3), (4, .int v4), (5, .int v5)]) hx hb dX12_feed_76 hl (by decide) rfl (fun ls hl => ?_)
  refine lv_aload_n hx hb dX12_feed_78 rfl (lv_at hl 2 rfl) ?_
  refine va_get (D := (dC, dI)) (ci := 12) (v := .ref a38) (C := RX12) (T := TX12) (N := 65) hx hb hts im_feed_RX12 hown hK hP 0 rfl rfl 38 (by decide) (hts (.fieldLink RX12 101 "PutBackModel" "tape" "[B") (by decide +kernel)) (fun _ h9 => h9) rfl dX12_feed_79 ?_
  refine lv_aload_n hx hb dX12_feed_82 rfl (lv_at hl 2 rfl) ?_
  refine va_get (D := (dC, dI)) (ci := 12) (v := .int 6) (C := RX12) (T := TX12) (N := 65) hx hb hts im_feed_RX12 hown hK hP 0 rfl rfl 39 (by decide) (hts (.fieldLink RX12 318 "PutBackModel" "taped" "I") (by decide +kernel)) (fun _ h9 => h9) rfl dX12_feed_83 ?_
  refine lv_iload hx hb dX12_feed_86 (lv_at hl 0 rfl) ?_
  refine lv_bipush (v := 24) hx hb dX12_feed_88 (by decide) ?_
  refine lv_bipush (v := 8) hx hb dX12_feed_90 (by decide) ?_
  refine lv_iload hx hb dX12_feed_92 (lv_at hl 1 rfl) ?_
  refine lv_iconst (v := 4) hx hb dX12_feed_94 (by decide) ?_
  refine lv_irem hx hb dX12_feed_95 (by decide) ?_
  refine lv_topi (fun z_62 ez_62 => ?_)
  obtain rfl : z_62 = (2 : Int32) := ez_62.trans (by decide)
  refine lv_imul hx hb dX12_feed_96 ?_
  refine lv_topi (fun z_63 ez_63 => ?_)
  obtain rfl : z_63 = (16 : Int32) := ez_63.trans (by decide)
  refine lv_isub hx hb dX12_feed_97 ?_
  refine lv_topi (fun z_64 ez_64 => ?_)
  obtain rfl : z_64 = (8 : Int32) := ez_64.trans (by decide)
  refine lv_ishr hx hb dX12_feed_98 ?_
  refine lv_topi (fun z_65 ez_65 => ?_)
  refine lv_i2b hx hb dX12_feed_99 rfl ?_
  refine lv_topi (fun z_66 ez_66 => ?_)
  refine va_bast hx hb hK hP hD hS 1 0 rfl rfl (by unfold vp_in; decide) dX12_feed_100 (fun H locs hP hD hS => ?_)
  have hP : va_P (dC, dI) cls [(h0, .inr (12, [.int 0, .ref a1, .ref a2, .ref a3, .ref a4, .ref a5, .int 0, .ref a7, .ref a8, .int 0, .ref a10, .ref a11, .ref a12, .ref a13, .int 0, .ref a15, .ref a16, .ref a17, .ref a18, .ref a19, .ref a20, .ref a21, .ref a22, .int 0, .ref a24, .int 0, .ref a26, .ref a27, .int 0, .ref a29, .ref a30, .ref a31, .ref a32, .ref a33, .int 0, .ref a35, .ref a36, .int 0, .ref a38, .int 6, .int 0, .int 0, .int 0, .int 0, .long 0, .int 0, .int 0, .int (-1), .int (-1), .int 0, .ref a50, .ref a51, .int 0, .int 0, .ref a54, .ref a55, .int (-1), .ref a57, .ref a58, .ref a59, .ref a60, .int 0, .int 0, .int 0, .ref a64])), (a38, .inl (cB, 600, .inl (upd g_57 (6 : Int32).toNatClampNeg (vp_nar .byte z_66))))] H := hP
  have hD : va_D A [(h0, .inr (12, [.int 0, .ref a1, .ref a2, .ref a3, .ref a4, .ref a5, .int 0, .ref a7, .ref a8, .int 0, .ref a10, .ref a11, .ref a12, .ref a13, .int 0, .ref a15, .ref a16, .ref a17, .ref a18, .ref a19, .ref a20, .ref a21, .ref a22, .int 0, .ref a24, .int 0, .ref a26, .ref a27, .int 0, .ref a29, .ref a30, .ref a31, .ref a32, .ref a33, .int 0, .ref a35, .ref a36, .int 0, .ref a38, .int 6, .int 0, .int 0, .int 0, .int 0, .long 0, .int 0, .int 0, .int (-1), .int (-1), .int 0, .ref a50, .ref a51, .int 0, .int 0, .ref a54, .ref a55, .int (-1), .ref a57, .ref a58, .ref a59, .ref a60, .int 0, .int 0, .int 0, .ref a64])), (a38, .inl (cB, 600, .inl (upd g_57 (6 : Int32).toNatClampNeg (vp_nar .byte z_66))))] := hD
  generalize (upd g_57 (6 : Int32).toNatClampNeg (vp_nar .byte z_66)) = g_67 at hP hD
  refine lv_aload_n hx hb dX12_feed_101 rfl (lv_at hl 2 rfl) ?_
  refine lv_aload_n hx hb dX12_feed_102 rfl (lv_at hl 2 rfl) ?_
  refine va_get (D := (dC, dI)) (ci := 12) (v := .int 6) (C := RX12) (T := TX12) (N := 65) hx hb hts im_feed_RX12 hown hK hP 0 rfl rfl 39 (by decide) (hts (.fieldLink RX12 318 "PutBackModel" "taped" "I") (by decide +kernel)) (fun _ h9 => h9) rfl dX12_feed_103 ?_
  refine lv_iconst (v := 1) hx hb dX12_feed_106 (by decide) ?_
  refine lv_iadd hx hb dX12_feed_107 ?_
  refine lv_topi (fun z_68 ez_68 => ?_)
  obtain rfl : z_68 = (7 : Int32) := ez_68.trans (by decide)
  refine va_put (D := (dC, dI)) (ci := 12) (v := .int 7) (ty := .int) (C := RX12) (T := TX12) (N := 65) hx hb hts im_feed_RX12 tyX12 tyX12_ok nmX12 hown hK hP hD hS 0 rfl rfl 39 (by decide) (hts (.fieldLink RX12 318 "PutBackModel" "taped" "I") (by decide +kernel)) (fun _ h9 => h9) rfl (by decide +kernel) rfl rfl (Nat.le_of_ble_eq_true rfl) dX12_feed_108 (fun H locs hP hD hS => ?_)
  have hP : va_P (dC, dI) cls [(h0, .inr (12, [.int 0, .ref a1, .ref a2, .ref a3, .ref a4, .ref a5, .int 0, .ref a7, .ref a8, .int 0, .ref a10, .ref a11, .ref a12, .ref a13, .int 0, .ref a15, .ref a16, .ref a17, .ref a18, .ref a19, .ref a20, .ref a21, .ref a22, .int 0, .ref a24, .int 0, .ref a26, .ref a27, .int 0, .ref a29, .ref a30, .ref a31, .ref a32, .ref a33, .int 0, .ref a35, .ref a36, .int 0, .ref a38, .int 7, .int 0, .int 0, .int 0, .int 0, .long 0, .int 0, .int 0, .int (-1), .int (-1), .int 0, .ref a50, .ref a51, .int 0, .int 0, .ref a54, .ref a55, .int (-1), .ref a57, .ref a58, .ref a59, .ref a60, .int 0, .int 0, .int 0, .ref a64])), (a38, .inl (cB, 600, .inl g_67))] H := hP
  have hD : va_D A [(h0, .inr (12, [.int 0, .ref a1, .ref a2, .ref a3, .ref a4, .ref a5, .int 0, .ref a7, .ref a8, .int 0, .ref a10, .ref a11, .ref a12, .ref a13, .int 0, .ref a15, .ref a16, .ref a17, .ref a18, .ref a19, .ref a20, .ref a21, .ref a22, .int 0, .ref a24, .int 0, .ref a26, .ref a27, .int 0, .ref a29, .ref a30, .ref a31, .ref a32, .ref a33, .int 0, .ref a35, .ref a36, .int 0, .ref a38, .int 7, .int 0, .int 0, .int 0, .int 0, .long 0, .int 0, .int 0, .int (-1), .int (-1), .int 0, .ref a50, .ref a51, .int 0, .int 0, .ref a54, .ref a55, .int (-1), .ref a57, .ref a58, .ref a59, .ref a60, .int 0, .int 0, .int 0, .ref a64])), (a38, .inl (cB, 600, .inl g_67))] := hD
  refine lv_iinc (v := 7) (lv' := [(6, .int 7), (7, .int v2), (0, .ref h0), (1, .int v1), (2, .int v2), (3, .int v3), (4, .int v4), (5, .int v5)]) hx hb dX12_feed_111 hl (k := 1) rfl (by decide) (by decide) rfl (fun ls hl => ?_)
  refine lv_goto (tgt := 23) hx hb dX12_feed_114 (by decide) ?_
  refine lv_iload hx hb dX12_feed_23 (lv_at hl 0 rfl) ?_
  refine lv_bipush (v := 20) hx hb dX12_feed_25 (by decide) ?_
  refine lv_icmp_ge (tgt := 117) hx hb dX12_feed_27 (by decide) (fun c_69 => ?_) (fun c_69 => ?_)
  · exact (by revert c_69; decide : False).elim
  refine lv_iload hx hb dX12_feed_30 (lv_at hl 0 rfl) ?_
  refine lv_iconst (v := 4) hx hb dX12_feed_32 (by decide) ?_
  refine lv_icmp_ge (tgt := 40) hx hb dX12_feed_33 (by decide) (fun c_70 => ?_) (fun c_70 => ?_)
  rotate_left
  · exact (by revert c_70; decide : False).elim
  refine lv_iload hx hb dX12_feed_40 (lv_at hl 0 rfl) ?_
  refine lv_bipush (v := 8) hx hb dX12_feed_42 (by decide) ?_
  refine lv_icmp_ge (tgt := 51) hx hb dX12_feed_44 (by decide) (fun c_71 => ?_) (fun c_71 => ?_)
  · exact (by revert c_71; decide : False).elim
  refine lv_iload_n hx hb dX12_feed_47 rfl (lv_at hl 4 rfl) ?_
  refine lv_goto (tgt := 76) hx hb dX12_feed_48 (by decide) ?_
  refine lv_istore (lv' := [(7, .int v2), (6, .int 7), (0, .ref h0), (1, .int v1), (2, .int v2), (3, .int v3), (4, .int v4), (5, .int v5)]) hx hb dX12_feed_76 hl (by decide) rfl (fun ls hl => ?_)
  refine lv_aload_n hx hb dX12_feed_78 rfl (lv_at hl 2 rfl) ?_
  refine va_get (D := (dC, dI)) (ci := 12) (v := .ref a38) (C := RX12) (T := TX12) (N := 65) hx hb hts im_feed_RX12 hown hK hP 0 rfl rfl 38 (by decide) (hts (.fieldLink RX12 101 "PutBackModel" "tape" "[B") (by decide +kernel)) (fun _ h9 => h9) rfl dX12_feed_79 ?_
  refine lv_aload_n hx hb dX12_feed_82 rfl (lv_at hl 2 rfl) ?_
  refine va_get (D := (dC, dI)) (ci := 12) (v := .int 7) (C := RX12) (T := TX12) (N := 65) hx hb hts im_feed_RX12 hown hK hP 0 rfl rfl 39 (by decide) (hts (.fieldLink RX12 318 "PutBackModel" "taped" "I") (by decide +kernel)) (fun _ h9 => h9) rfl dX12_feed_83 ?_
  refine lv_iload hx hb dX12_feed_86 (lv_at hl 0 rfl) ?_
  refine lv_bipush (v := 24) hx hb dX12_feed_88 (by decide) ?_
  refine lv_bipush (v := 8) hx hb dX12_feed_90 (by decide) ?_
  refine lv_iload hx hb dX12_feed_92 (lv_at hl 1 rfl) ?_
  refine lv_iconst (v := 4) hx hb dX12_feed_94 (by decide) ?_
  refine lv_irem hx hb dX12_feed_95 (by decide) ?_
  refine lv_topi (fun z_72 ez_72 => ?_)
  obtain rfl : z_72 = (3 : Int32) := ez_72.trans (by decide)
  refine lv_imul hx hb dX12_feed_96 ?_
  refine lv_topi (fun z_73 ez_73 => ?_)
  obtain rfl : z_73 = (24 : Int32) := ez_73.trans (by decide)
  refine lv_isub hx hb dX12_feed_97 ?_
  refine lv_topi (fun z_74 ez_74 => ?_)
  obtain rfl : z_74 = (0 : Int32) := ez_74.trans (by decide)
  refine lv_ishr hx hb dX12_feed_98 ?_
  refine lv_topi (fun z_75 ez_75 => ?_)
  refine lv_i2b hx hb dX12_feed_99 rfl ?_
  refine lv_topi (fun z_76 ez_76 => ?_)
  refine va_bast hx hb hK hP hD hS 1 0 rfl rfl (by unfold vp_in; decide) dX12_feed_100 (fun H locs hP hD hS => ?_)
  have hP : va_P (dC, dI) cls [(h0, .inr (12, [.int 0, .ref a1, .ref a2, .ref a3, .ref a4, .ref a5, .int 0, .ref a7, .ref a8, .int 0, .ref a10, .ref a11, .ref a12, .ref a13, .int 0, .ref a15, .ref a16, .ref a17, .ref a18, .ref a19, .ref a20, .ref a21, .ref a22, .int 0, .ref a24, .int 0, .ref a26, .ref a27, .int 0, .ref a29, .ref a30, .ref a31, .ref a32, .ref a33, .int 0, .ref a35, .ref a36, .int 0, .ref a38, .int 7, .int 0, .int 0, .int 0, .int 0, .long 0, .int 0, .int 0, .int (-1), .int (-1), .int 0, .ref a50, .ref a51, .int 0, .int 0, .ref a54, .ref a55, .int (-1), .ref a57, .ref a58, .ref a59, .ref a60, .int 0, .int 0, .int 0, .ref a64])), (a38, .inl (cB, 600, .inl (upd g_67 (7 : Int32).toNatClampNeg (vp_nar .byte z_76))))] H := hP
  have hD : va_D A [(h0, .inr (12, [.int 0, .ref a1, .ref a2, .ref a3, .ref a4, .ref a5, .int 0, .ref a7, .ref a8, .int 0, .ref a10, .ref a11, .ref a12, .ref a13, .int 0, .ref a15, .ref a16, .ref a17, .ref a18, .ref a19, .ref a20, .ref a21, .ref a22, .int 0, .ref a24, .int 0, .ref a26, .ref a27, .int 0, .ref a29, .ref a30, .ref a31, .ref a32, .ref a33, .int 0, .ref a35, .ref a36, .int 0, .ref a38, .int 7, .int 0, .int 0, .int 0, .int 0, .long 0, .int 0, .int 0, .int (-1), .int (-1), .int 0, .ref a50, .ref a51, .int 0, .int 0, .ref a54, .ref a55, .int (-1), .ref a57, .ref a58, .ref a59, .ref a60, .int 0, .int 0, .int 0, .ref a64])), (a38, .inl (cB, 600, .inl (upd g_67 (7 : Int32).toNatClampNeg (vp_nar .byte z_76))))] := hD
  generalize (upd g_67 (7 : Int32).toNatClampNeg (vp_nar .byte z_76)) = g_77 at hP hD
  refine lv_aload_n hx hb dX12_feed_101 rfl (lv_at hl 2 rfl) ?_
  refine lv_aload_n hx hb dX12_feed_102 rfl (lv_at hl 2 rfl) ?_
  refine va_get (D := (dC, dI)) (ci := 12) (v := .int 7) (C := RX12) (T := TX12) (N := 65) hx hb hts im_feed_RX12 hown hK hP 0 rfl rfl 39 (by decide) (hts (.fieldLink RX12 318 "PutBackModel" "taped" "I") (by decide +kernel)) (fun _ h9 => h9) rfl dX12_feed_103 ?_
  refine lv_iconst (v := 1) hx hb dX12_feed_106 (by decide) ?_
  refine lv_iadd hx hb dX12_feed_107 ?_
  refine lv_topi (fun z_78 ez_78 => ?_)
  obtain rfl : z_78 = (8 : Int32) := ez_78.trans (by decide)
  refine va_put (D := (dC, dI)) (ci := 12) (v := .int 8) (ty := .int) (C := RX12) (T := TX12) (N := 65) hx hb hts im_feed_RX12 tyX12 tyX12_ok nmX12 hown hK hP hD hS 0 rfl rfl 39 (by decide) (hts (.fieldLink RX12 318 "PutBackModel" "taped" "I") (by decide +kernel)) (fun _ h9 => h9) rfl (by decide +kernel) rfl rfl (Nat.le_of_ble_eq_true rfl) dX12_feed_108 (fun H locs hP hD hS => ?_)
  have hP : va_P (dC, dI) cls [(h0, .inr (12, [.int 0, .ref a1, .ref a2, .ref a3, .ref a4, .ref a5, .int 0, .ref a7, .ref a8, .int 0, .ref a10, .ref a11, .ref a12, .ref a13, .int 0, .ref a15, .ref a16, .ref a17, .ref a18, .ref a19, .ref a20, .ref a21, .ref a22, .int 0, .ref a24, .int 0, .ref a26, .ref a27, .int 0, .ref a29, .ref a30, .ref a31, .ref a32, .ref a33, .int 0, .ref a35, .ref a36, .int 0, .ref a38, .int 8, .int 0, .int 0, .int 0, .int 0, .long 0, .int 0, .int 0, .int (-1), .int (-1), .int 0, .ref a50, .ref a51, .int 0, .int 0, .ref a54, .ref a55, .int (-1), .ref a57, .ref a58, .ref a59, .ref a60, .int 0, .int 0, .int 0, .ref a64])), (a38, .inl (cB, 600, .inl g_77))] H := hP
  have hD : va_D A [(h0, .inr (12, [.int 0, .ref a1, .ref a2, .ref a3, .ref a4, .ref a5, .int 0, .ref a7, .ref a8, .int 0, .ref a10, .ref a11, .ref a12, .ref a13, .int 0, .ref a15, .ref a16, .ref a17, .ref a18, .ref a19, .ref a20, .ref a21, .ref a22, .int 0, .ref a24, .int 0, .ref a26, .ref a27, .int 0, .ref a29, .ref a30, .ref a31, .ref a32, .ref a33, .int 0, .ref a35, .ref a36, .int 0, .ref a38, .int 8, .int 0, .int 0, .int 0, .int 0, .long 0, .int 0, .int 0, .int (-1), .int (-1), .int 0, .ref a50, .ref a51, .int 0, .int 0, .ref a54, .ref a55, .int (-1), .ref a57, .ref a58, .ref a59, .ref a60, .int 0, .int 0, .int 0, .ref a64])), (a38, .inl (cB, 600, .inl g_77))] := hD
  refine lv_iinc (v := 8) (lv' := [(6, .int 8), (7, .int v2), (0, .ref h0), (1, .int v1), (2, .int v2), (3, .int v3), (4, .int v4), (5, .int v5)]) hx hb dX12_feed_111 hl (k := 1) rfl (by decide) (by decide) rfl (fun ls hl => ?_)
  refine lv_goto (tgt := 23) hx hb dX12_feed_114 (by decide) ?_
  refine lv_iload hx hb dX12_feed_23 (lv_at hl 0 rfl) ?_
  refine lv_bipush (v := 20) hx hb dX12_feed_25 (by decide) ?_
  refine lv_icmp_ge (tgt := 117) hx hb dX12_feed_27 (by decide) (fun c_79 => ?_) (fun c_79 => ?_)
  · exact (by revert c_79; decide : False).elim
  refine lv_iload hx hb dX12_feed_30 (lv_at hl 0 rfl) ?_
  refine lv_iconst (v := 4) hx hb dX12_feed_32 (by decide) ?_
  refine lv_icmp_ge (tgt := 40) hx hb dX12_feed_33 (by decide) (fun c_80 => ?_) (fun c_80 => ?_)
  rotate_left
  · exact (by revert c_80; decide : False).elim
  refine lv_iload hx hb dX12_feed_40 (lv_at hl 0 rfl) ?_
  refine lv_bipush (v := 8) hx hb dX12_feed_42 (by decide) ?_
  refine lv_icmp_ge (tgt := 51) hx hb dX12_feed_44 (by decide) (fun c_81 => ?_) (fun c_81 => ?_)
  rotate_left
  · exact (by revert c_81; decide : False).elim
  refine lv_iload hx hb dX12_feed_51 (lv_at hl 0 rfl) ?_
  refine lv_bipush (v := 12) hx hb dX12_feed_53 (by decide) ?_
  refine lv_icmp_ge (tgt := 62) hx hb dX12_feed_55 (by decide) (fun c_82 => ?_) (fun c_82 => ?_)
  · exact (by revert c_82; decide : False).elim
  refine lv_iload_n hx hb dX12_feed_58 rfl (lv_at hl 5 rfl) ?_
  refine lv_goto (tgt := 76) hx hb dX12_feed_59 (by decide) ?_
  refine lv_istore (lv' := [(7, .int v3), (6, .int 8), (0, .ref h0), (1, .int v1), (2, .int v2), (3, .int v3), (4, .int v4), (5, .int v5)]) hx hb dX12_feed_76 hl (by decide) rfl (fun ls hl => ?_)
  refine lv_aload_n hx hb dX12_feed_78 rfl (lv_at hl 2 rfl) ?_
  refine va_get (D := (dC, dI)) (ci := 12) (v := .ref a38) (C := RX12) (T := TX12) (N := 65) hx hb hts im_feed_RX12 hown hK hP 0 rfl rfl 38 (by decide) (hts (.fieldLink RX12 101 "PutBackModel" "tape" "[B") (by decide +kernel)) (fun _ h9 => h9) rfl dX12_feed_79 ?_
  refine lv_aload_n hx hb dX12_feed_82 rfl (lv_at hl 2 rfl) ?_
  refine va_get (D := (dC, dI)) (ci := 12) (v := .int 8) (C := RX12) (T := TX12) (N := 65) hx hb hts im_feed_RX12 hown hK hP 0 rfl rfl 39 (by decide) (hts (.fieldLink RX12 318 "PutBackModel" "taped" "I") (by decide +kernel)) (fun _ h9 => h9) rfl dX12_feed_83 ?_
  refine lv_iload hx hb dX12_feed_86 (lv_at hl 0 rfl) ?_
  refine lv_bipush (v := 24) hx hb dX12_feed_88 (by decide) ?_
  refine lv_bipush (v := 8) hx hb dX12_feed_90 (by decide) ?_
  refine lv_iload hx hb dX12_feed_92 (lv_at hl 1 rfl) ?_
  refine lv_iconst (v := 4) hx hb dX12_feed_94 (by decide) ?_
  refine lv_irem hx hb dX12_feed_95 (by decide) ?_
  refine lv_topi (fun z_83 ez_83 => ?_)
  obtain rfl : z_83 = (0 : Int32) := ez_83.trans (by decide)
  refine lv_imul hx hb dX12_feed_96 ?_
  refine lv_topi (fun z_84 ez_84 => ?_)
  obtain rfl : z_84 = (0 : Int32) := ez_84.trans (by decide)
  refine lv_isub hx hb dX12_feed_97 ?_
  refine lv_topi (fun z_85 ez_85 => ?_)
  obtain rfl : z_85 = (24 : Int32) := ez_85.trans (by decide)
  refine lv_ishr hx hb dX12_feed_98 ?_
  refine lv_topi (fun z_86 ez_86 => ?_)
  refine lv_i2b hx hb dX12_feed_99 rfl ?_
  refine lv_topi (fun z_87 ez_87 => ?_)
  refine va_bast hx hb hK hP hD hS 1 0 rfl rfl (by unfold vp_in; decide) dX12_feed_100 (fun H locs hP hD hS => ?_)
  have hP : va_P (dC, dI) cls [(h0, .inr (12, [.int 0, .ref a1, .ref a2, .ref a3, .ref a4, .ref a5, .int 0, .ref a7, .ref a8, .int 0, .ref a10, .ref a11, .ref a12, .ref a13, .int 0, .ref a15, .ref a16, .ref a17, .ref a18, .ref a19, .ref a20, .ref a21, .ref a22, .int 0, .ref a24, .int 0, .ref a26, .ref a27, .int 0, .ref a29, .ref a30, .ref a31, .ref a32, .ref a33, .int 0, .ref a35, .ref a36, .int 0, .ref a38, .int 8, .int 0, .int 0, .int 0, .int 0, .long 0, .int 0, .int 0, .int (-1), .int (-1), .int 0, .ref a50, .ref a51, .int 0, .int 0, .ref a54, .ref a55, .int (-1), .ref a57, .ref a58, .ref a59, .ref a60, .int 0, .int 0, .int 0, .ref a64])), (a38, .inl (cB, 600, .inl (upd g_77 (8 : Int32).toNatClampNeg (vp_nar .byte z_87))))] H := hP
  have hD : va_D A [(h0, .inr (12, [.int 0, .ref a1, .ref a2, .ref a3, .ref a4, .ref a5, .int 0, .ref a7, .ref a8, .int 0, .ref a10, .ref a11, .ref a12, .ref a13, .int 0, .ref a15, .ref a16, .ref a17, .ref a18, .ref a19, .ref a20, .ref a21, .ref a22, .int 0, .ref a24, .int 0, .ref a26, .ref a27, .int 0, .ref a29, .ref a30, .ref a31, .ref a32, .ref a33, .int 0, .ref a35, .ref a36, .int 0, .ref a38, .int 8, .int 0, .int 0, .int 0, .int 0, .long 0, .int 0, .int 0, .int (-1), .int (-1), .int 0, .ref a50, .ref a51, .int 0, .int 0, .ref a54, .ref a55, .int (-1), .ref a57, .ref a58, .ref a59, .ref a60, .int 0, .int 0, .int 0, .ref a64])), (a38, .inl (cB, 600, .inl (upd g_77 (8 : Int32).toNatClampNeg (vp_nar .byte z_87))))] := hD
  generalize (upd g_77 (8 : Int32).toNatClampNeg (vp_nar .byte z_87)) = g_88 at hP hD
  refine lv_aload_n hx hb dX12_feed_101 rfl (lv_at hl 2 rfl) ?_
  refine lv_aload_n hx hb dX12_feed_102 rfl (lv_at hl 2 rfl) ?_
  refine va_get (D := (dC, dI)) (ci := 12) (v := .int 8) (C := RX12) (T := TX12) (N := 65) hx hb hts im_feed_RX12 hown hK hP 0 rfl rfl 39 (by decide) (hts (.fieldLink RX12 318 "PutBackModel" "taped" "I") (by decide +kernel)) (fun _ h9 => h9) rfl dX12_feed_103 ?_
  refine lv_iconst (v := 1) hx hb dX12_feed_106 (by decide) ?_
  refine lv_iadd hx hb dX12_feed_107 ?_
  refine lv_topi (fun z_89 ez_89 => ?_)
  obtain rfl : z_89 = (9 : Int32) := ez_89.trans (by decide)
  refine va_put (D := (dC, dI)) (ci := 12) (v := .int 9) (ty := .int) (C := RX12) (T := TX12) (N := 65) hx hb hts im_feed_RX12 tyX12 tyX12_ok nmX12 hown hK hP hD hS 0 rfl rfl 39 (by decide) (hts (.fieldLink RX12 318 "PutBackModel" "taped" "I") (by decide +kernel)) (fun _ h9 => h9) rfl (by decide +kernel) rfl rfl (Nat.le_of_ble_eq_true rfl) dX12_feed_108 (fun H locs hP hD hS => ?_)
  have hP : va_P (dC, dI) cls [(h0, .inr (12, [.int 0, .ref a1, .ref a2, .ref a3, .ref a4, .ref a5, .int 0, .ref a7, .ref a8, .int 0, .ref a10, .ref a11, .ref a12, .ref a13, .int 0, .ref a15, .ref a16, .ref a17, .ref a18, .ref a19, .ref a20, .ref a21, .ref a22, .int 0, .ref a24, .int 0, .ref a26, .ref a27, .int 0, .ref a29, .ref a30, .ref a31, .ref a32, .ref a33, .int 0, .ref a35, .ref a36, .int 0, .ref a38, .int 9, .int 0, .int 0, .int 0, .int 0, .long 0, .int 0, .int 0, .int (-1), .int (-1), .int 0, .ref a50, .ref a51, .int 0, .int 0, .ref a54, .ref a55, .int (-1), .ref a57, .ref a58, .ref a59, .ref a60, .int 0, .int 0, .int 0, .ref a64])), (a38, .inl (cB, 600, .inl g_88))] H := hP
  have hD : va_D A [(h0, .inr (12, [.int 0, .ref a1, .ref a2, .ref a3, .ref a4, .ref a5, .int 0, .ref a7, .ref a8, .int 0, .ref a10, .ref a11, .ref a12, .ref a13, .int 0, .ref a15, .ref a16, .ref a17, .ref a18, .ref a19, .ref a20, .ref a21, .ref a22, .int 0, .ref a24, .int 0, .ref a26, .ref a27, .int 0, .ref a29, .ref a30, .ref a31, .ref a32, .ref a33, .int 0, .ref a35, .ref a36, .int 0, .ref a38, .int 9, .int 0, .int 0, .int 0, .int 0, .long 0, .int 0, .int 0, .int (-1), .int (-1), .int 0, .ref a50, .ref a51, .int 0, .int 0, .ref a54, .ref a55, .int (-1), .ref a57, .ref a58, .ref a59, .ref a60, .int 0, .int 0, .int 0, .ref a64])), (a38, .inl (cB, 600, .inl g_88))] := hD
  refine lv_iinc (v := 9) (lv' := [(6, .int 9), (7, .int v3), (0, .ref h0), (1, .int v1), (2, .int v2), (3, .int v3), (4, .int v4), (5, .int v5)]) hx hb dX12_feed_111 hl (k := 1) rfl (by decide) (by decide) rfl (fun ls hl => ?_)
  refine lv_goto (tgt := 23) hx hb dX12_feed_114 (by decide) ?_
  refine lv_iload hx hb dX12_feed_23 (lv_at hl 0 rfl) ?_
  refine lv_bipush (v := 20) hx hb dX12_feed_25 (by decide) ?_
  refine lv_icmp_ge (tgt := 117) hx hb dX12_feed_27 (by decide) (fun c_90 => ?_) (fun c_90 => ?_)
  · exact (by revert c_90; decide : False).elim
  refine lv_iload hx hb dX12_feed_30 (lv_at hl 0 rfl) ?_
  refine lv_iconst (v := 4) hx hb dX12_feed_32 (by decide) ?_
  refine lv_icmp_ge (tgt := 40) hx hb dX12_feed_33 (by decide) (fun c_91 => ?_) (fun c_91 => ?_)
  rotate_left
  · exact (by revert c_91; decide : False).elim
  refine lv_iload hx hb dX12_feed_40 (lv_at hl 0 rfl) ?_
  refine lv_bipush (v := 8) hx hb dX12_feed_42 (by decide) ?_
  refine lv_icmp_ge (tgt := 51) hx hb dX12_feed_44 (by decide) (fun c_92 => ?_) (fun c_92 => ?_)
  rotate_left
  · exact (by revert c_92; decide : False).elim
  refine lv_iload hx hb dX12_feed_51 (lv_at hl 0 rfl) ?_
  refine lv_bipush (v := 12) hx hb dX12_feed_53 (by decide) ?_
  refine lv_icmp_ge (tgt := 62) hx hb dX12_feed_55 (by decide) (fun c_93 => ?_) (fun c_93 => ?_)
  · exact (by revert c_93; decide : False).elim
  refine lv_iload_n hx hb dX12_feed_58 rfl (lv_at hl 5 rfl) ?_
  refine lv_goto (tgt := 76) hx hb dX12_feed_59 (by decide) ?_
  refine lv_istore (lv' := [(7, .int v3), (6, .int 9), (0, .ref h0), (1, .int v1), (2, .int v2), (3, .int v3), (4, .int v4), (5, .int v5)]) hx hb dX12_feed_76 hl (by decide) rfl (fun ls hl => ?_)
  refine lv_aload_n hx hb dX12_feed_78 rfl (lv_at hl 2 rfl) ?_
  refine va_get (D := (dC, dI)) (ci := 12) (v := .ref a38) (C := RX12) (T := TX12) (N := 65) hx hb hts im_feed_RX12 hown hK hP 0 rfl rfl 38 (by decide) (hts (.fieldLink RX12 101 "PutBackModel" "tape" "[B") (by decide +kernel)) (fun _ h9 => h9) rfl dX12_feed_79 ?_
  refine lv_aload_n hx hb dX12_feed_82 rfl (lv_at hl 2 rfl) ?_
  refine va_get (D := (dC, dI)) (ci := 12) (v := .int 9) (C := RX12) (T := TX12) (N := 65) hx hb hts im_feed_RX12 hown hK hP 0 rfl rfl 39 (by decide) (hts (.fieldLink RX12 318 "PutBackModel" "taped" "I") (by decide +kernel)) (fun _ h9 => h9) rfl dX12_feed_83 ?_
  refine lv_iload hx hb dX12_feed_86 (lv_at hl 0 rfl) ?_
  refine lv_bipush (v := 24) hx hb dX12_feed_88 (by decide) ?_
  refine lv_bipush (v := 8) hx hb dX12_feed_90 (by decide) ?_
  refine lv_iload hx hb dX12_feed_92 (lv_at hl 1 rfl) ?_
  refine lv_iconst (v := 4) hx hb dX12_feed_94 (by decide) ?_
  refine lv_irem hx hb dX12_feed_95 (by decide) ?_
  refine lv_topi (fun z_94 ez_94 => ?_)
  obtain rfl : z_94 = (1 : Int32) := ez_94.trans (by decide)
  refine lv_imul hx hb dX12_feed_96 ?_
  refine lv_topi (fun z_95 ez_95 => ?_)
  obtain rfl : z_95 = (8 : Int32) := ez_95.trans (by decide)
  refine lv_isub hx hb dX12_feed_97 ?_
  refine lv_topi (fun z_96 ez_96 => ?_)
  obtain rfl : z_96 = (16 : Int32) := ez_96.trans (by decide)
  refine lv_ishr hx hb dX12_feed_98 ?_
  refine lv_topi (fun z_97 ez_97 => ?_)
  refine lv_i2b hx hb dX12_feed_99 rfl ?_
  refine lv_topi (fun z_98 ez_98 => ?_)
  refine va_bast hx hb hK hP hD hS 1 0 rfl rfl (by unfold vp_in; decide) dX12_feed_100 (fun H locs hP hD hS => ?_)
  have hP : va_P (dC, dI) cls [(h0, .inr (12, [.int 0, .ref a1, .ref a2, .ref a3, .ref a4, .ref a5, .int 0, .ref a7, .ref a8, .int 0, .ref a10, .ref a11, .ref a12, .ref a13, .int 0, .ref a15, .ref a16, .ref a17, .ref a18, .ref a19, .ref a20, .ref a21, .ref a22, .int 0, .ref a24, .int 0, .ref a26, .ref a27, .int 0, .ref a29, .ref a30, .ref a31, .ref a32, .ref a33, .int 0, .ref a35, .ref a36, .int 0, .ref a38, .int 9, .int 0, .int 0, .int 0, .int 0, .long 0, .int 0, .int 0, .int (-1), .int (-1), .int 0, .ref a50, .ref a51, .int 0, .int 0, .ref a54, .ref a55, .int (-1), .ref a57, .ref a58, .ref a59, .ref a60, .int 0, .int 0, .int 0, .ref a64])), (a38, .inl (cB, 600, .inl (upd g_88 (9 : Int32).toNatClampNeg (vp_nar .byte z_98))))] H := hP
  have hD : va_D A [(h0, .inr (12, [.int 0, .ref a1, .ref a2, .ref a3, .ref a4, .ref a5, .int 0, .ref a7, .ref a8, .int 0, .ref a10, .ref a11, .ref a12, .ref a13, .int 0, .ref a15, .ref a16, .ref a17, .ref a18, .ref a19, .ref a20, .ref a21, .ref a22, .int 0, .ref a24, .int 0, .ref a26, .ref a27, .int 0, .ref a29, .ref a30, .ref a31, .ref a32, .ref a33, .int 0, .ref a35, .ref a36, .int 0, .ref a38, .int 9, .int 0, .int 0, .int 0, .int 0, .long 0, .int 0, .int 0, .int (-1), .int (-1), .int 0, .ref a50, .ref a51, .int 0, .int 0, .ref a54, .ref a55, .int (-1), .ref a57, .ref a58, .ref a59, .ref a60, .int 0, .int 0, .int 0, .ref a64])), (a38, .inl (cB, 600, .inl (upd g_88 (9 : Int32).toNatClampNeg (vp_nar .byte z_98))))] := hD
  generalize (upd g_88 (9 : Int32).toNatClampNeg (vp_nar .byte z_98)) = g_99 at hP hD
  refine lv_aload_n hx hb dX12_feed_101 rfl (lv_at hl 2 rfl) ?_
  refine lv_aload_n hx hb dX12_feed_102 rfl (lv_at hl 2 rfl) ?_
  refine va_get (D := (dC, dI)) (ci := 12) (v := .int 9) (C := RX12) (T := TX12) (N := 65) hx hb hts im_feed_RX12 hown hK hP 0 rfl rfl 39 (by decide) (hts (.fieldLink RX12 318 "PutBackModel" "taped" "I") (by decide +kernel)) (fun _ h9 => h9) rfl dX12_feed_103 ?_
  refine lv_iconst (v := 1) hx hb dX12_feed_106 (by decide) ?_
  refine lv_iadd hx hb dX12_feed_107 ?_
  refine lv_topi (fun z_100 ez_100 => ?_)
  obtain rfl : z_100 = (10 : Int32) := ez_100.trans (by decide)
  refine va_put (D := (dC, dI)) (ci := 12) (v := .int 10) (ty := .int) (C := RX12) (T := TX12) (N := 65) hx hb hts im_feed_RX12 tyX12 tyX12_ok nmX12 hown hK hP hD hS 0 rfl rfl 39 (by decide) (hts (.fieldLink RX12 318 "PutBackModel" "taped" "I") (by decide +kernel)) (fun _ h9 => h9) rfl (by decide +kernel) rfl rfl (Nat.le_of_ble_eq_true rfl) dX12_feed_108 (fun H locs hP hD hS => ?_)
  have hP : va_P (dC, dI) cls [(h0, .inr (12, [.int 0, .ref a1, .ref a2, .ref a3, .ref a4, .ref a5, .int 0, .ref a7, .ref a8, .int 0, .ref a10, .ref a11, .ref a12, .ref a13, .int 0, .ref a15, .ref a16, .ref a17, .ref a18, .ref a19, .ref a20, .ref a21, .ref a22, .int 0, .ref a24, .int 0, .ref a26, .ref a27, .int 0, .ref a29, .ref a30, .ref a31, .ref a32, .ref a33, .int 0, .ref a35, .ref a36, .int 0, .ref a38, .int 10, .int 0, .int 0, .int 0, .int 0, .long 0, .int 0, .int 0, .int (-1), .int (-1), .int 0, .ref a50, .ref a51, .int 0, .int 0, .ref a54, .ref a55, .int (-1), .ref a57, .ref a58, .ref a59, .ref a60, .int 0, .int 0, .int 0, .ref a64])), (a38, .inl (cB, 600, .inl g_99))] H := hP
  have hD : va_D A [(h0, .inr (12, [.int 0, .ref a1, .ref a2, .ref a3, .ref a4, .ref a5, .int 0, .ref a7, .ref a8, .int 0, .ref a10, .ref a11, .ref a12, .ref a13, .int 0, .ref a15, .ref a16, .ref a17, .ref a18, .ref a19, .ref a20, .ref a21, .ref a22, .int 0, .ref a24, .int 0, .ref a26, .ref a27, .int 0, .ref a29, .ref a30, .ref a31, .ref a32, .ref a33, .int 0, .ref a35, .ref a36, .int 0, .ref a38, .int 10, .int 0, .int 0, .int 0, .int 0, .long 0, .int 0, .int 0, .int (-1), .int (-1), .int 0, .ref a50, .ref a51, .int 0, .int 0, .ref a54, .ref a55, .int (-1), .ref a57, .ref a58, .ref a59, .ref a60, .int 0, .int 0, .int 0, .ref a64])), (a38, .inl (cB, 600, .inl g_99))] := hD
  refine lv_iinc (v := 10) (lv' := [(6, .int 10), (7, .int v3), (0, .ref h0), (1, .int v1), (2, .int v2), (3, .int v3), (4, .int v4), (5, .int v5)]) hx hb dX12_feed_111 hl (k := 1) rfl (by decide) (by decide) rfl (fun ls hl => ?_)
  refine lv_goto (tgt := 23) hx hb dX12_feed_114 (by decide) ?_
  refine lv_iload hx hb dX12_feed_23 (lv_at hl 0 rfl) ?_
  refine lv_bipush (v := 20) hx hb dX12_feed_25 (by decide) ?_
  refine lv_icmp_ge (tgt := 117) hx hb dX12_feed_27 (by decide) (fun c_101 => ?_) (fun c_101 => ?_)
  · exact (by revert c_101; decide : False).elim
  refine lv_iload hx hb dX12_feed_30 (lv_at hl 0 rfl) ?_
  refine lv_iconst (v := 4) hx hb dX12_feed_32 (by decide) ?_
  refine lv_icmp_ge (tgt := 40) hx hb dX12_feed_33 (by decide) (fun c_102 => ?_) (fun c_102 => ?_)
  rotate_left
  · exact (by revert c_102; decide : False).elim
  refine lv_iload hx hb dX12_feed_40 (lv_at hl 0 rfl) ?_
  refine lv_bipush (v := 8) hx hb dX12_feed_42 (by decide) ?_
  refine lv_icmp_ge (tgt := 51) hx hb dX12_feed_44 (by decide) (fun c_103 => ?_) (fun c_103 => ?_)
  rotate_left
  · exact (by revert c_103; decide : False).elim
  refine lv_iload hx hb dX12_feed_51 (lv_at hl 0 rfl) ?_
  refine lv_bipush (v := 12) hx hb dX12_feed_53 (by decide) ?_
  refine lv_icmp_ge (tgt := 62) hx hb dX12_feed_55 (by decide) (fun c_104 => ?_) (fun c_104 => ?_)
  · exact (by revert c_104; decide : False).elim
  refine lv_iload_n hx hb dX12_feed_58 rfl (lv_at hl 5 rfl) ?_
  refine lv_goto (tgt := 76) hx hb dX12_feed_59 (by decide) ?_
  refine lv_istore (lv' := [(7, .int v3), (6, .int 10), (0, .ref h0), (1, .int v1), (2, .int v2), (3, .int v3), (4, .int v4), (5, .int v5)]) hx hb dX12_feed_76 hl (by decide) rfl (fun ls hl => ?_)
  refine lv_aload_n hx hb dX12_feed_78 rfl (lv_at hl 2 rfl) ?_
  refine va_get (D := (dC, dI)) (ci := 12) (v := .ref a38) (C := RX12) (T := TX12) (N := 65) hx hb hts im_feed_RX12 hown hK hP 0 rfl rfl 38 (by decide) (hts (.fieldLink RX12 101 "PutBackModel" "tape" "[B") (by decide +kernel)) (fun _ h9 => h9) rfl dX12_feed_79 ?_
  refine lv_aload_n hx hb dX12_feed_82 rfl (lv_at hl 2 rfl) ?_
  refine va_get (D := (dC, dI)) (ci := 12) (v := .int 10) (C := RX12) (T := TX12) (N := 65) hx hb hts im_feed_RX12 hown hK hP 0 rfl rfl 39 (by decide) (hts (.fieldLink RX12 318 "PutBackModel" "taped" "I") (by decide +kernel)) (fun _ h9 => h9) rfl dX12_feed_83 ?_
  refine lv_iload hx hb dX12_feed_86 (lv_at hl 0 rfl) ?_
  refine lv_bipush (v := 24) hx hb dX12_feed_88 (by decide) ?_
  refine lv_bipush (v := 8) hx hb dX12_feed_90 (by decide) ?_
  refine lv_iload hx hb dX12_feed_92 (lv_at hl 1 rfl) ?_
  refine lv_iconst (v := 4) hx hb dX12_feed_94 (by decide) ?_
  refine lv_irem hx hb dX12_feed_95 (by decide) ?_
  refine lv_topi (fun z_105 ez_105 => ?_)
  obtain rfl : z_105 = (2 : Int32) := ez_105.trans (by decide)
  refine lv_imul hx hb dX12_feed_96 ?_
  refine lv_topi (fun z_106 ez_106 => ?_)
  obtain rfl : z_106 = (16 : Int32) := ez_106.trans (by decide)
  refine lv_isub hx hb dX12_feed_97 ?_
  refine lv_topi (fun z_107 ez_107 => ?_)
  obtain rfl : z_107 = (8 : Int32) := ez_107.trans (by decide)
  refine lv_ishr hx hb dX12_feed_98 ?_
  refine lv_topi (fun z_108 ez_108 => ?_)
  refine lv_i2b hx hb dX12_feed_99 rfl ?_
  refine lv_topi (fun z_109 ez_109 => ?_)
  refine va_bast hx hb hK hP hD hS 1 0 rfl rfl (by unfold vp_in; decide) dX12_feed_100 (fun H locs hP hD hS => ?_)
  have hP : va_P (dC, dI) cls [(h0, .inr (12, [.int 0, .ref a1, .ref a2, .ref a3, .ref a4, .ref a5, .int 0, .ref a7, .ref a8, .int 0, .ref a10, .ref a11, .ref a12, .ref a13, .int 0, .ref a15, .ref a16, .ref a17, .ref a18, .ref a19, .ref a20, .ref a21, .ref a22, .int 0, .ref a24, .int 0, .ref a26, .ref a27, .int 0, .ref a29, .ref a30, .ref a31, .ref a32, .ref a33, .int 0, .ref a35, .ref a36, .int 0, .ref a38, .int 10, .int 0, .int 0, .int 0, .int 0, .long 0, .int 0, .int 0, .int (-1), .int (-1), .int 0, .ref a50, .ref a51, .int 0, .int 0, .ref a54, .ref a55, .int (-1), .ref a57, .ref a58, .ref a59, .ref a60, .int 0, .int 0, .int 0, .ref a64])), (a38, .inl (cB, 600, .inl (upd g_99 (10 : Int32).toNatClampNeg (vp_nar .byte z_109))))] H := hP
  have hD : va_D A [(h0, .inr (12, [.int 0, .ref a1, .ref a2, .ref a3, .ref a4, .ref a5, .int 0, .ref a7, .ref a8, .int 0, .ref a10, .ref a11, .ref a12, .ref a13, .int 0, .ref a15, .ref a16, .ref a17, .ref a18, .ref a19, .ref a20, .ref a21, .ref a22, .int 0, .ref a24, .int 0, .ref a26, .ref a27, .int 0, .ref a29, .ref a30, .ref a31, .ref a32, .ref a33, .int 0, .ref a35, .ref a36, .int 0, .ref a38, .int 10, .int 0, .int 0, .int 0, .int 0, .long 0, .int 0, .int 0, .int (-1), .int (-1), .int 0, .ref a50, .ref a51, .int 0, .int 0, .ref a54, .ref a55, .int (-1), .ref a57, .ref a58, .ref a59, .ref a60, .int 0, .int 0, .int 0, .ref a64])), (a38, .inl (cB, 600, .inl (upd g_99 (10 : Int32).toNatClampNeg (vp_nar .byte z_109))))] := hD
  generalize (upd g_99 (10 : Int32).toNatClampNeg (vp_nar .byte z_109)) = g_110 at hP hD
  refine lv_aload_n hx hb dX12_feed_101 rfl (lv_at hl 2 rfl) ?_
  refine lv_aload_n hx hb dX12_feed_102 rfl (lv_at hl 2 rfl) ?_
  refine va_get (D := (dC, dI)) (ci := 12) (v := .int 10) (C := RX12) (T := TX12) (N := 65) hx hb hts im_feed_RX12 hown hK hP 0 rfl rfl 39 (by decide) (hts (.fieldLink RX12 318 "PutBackModel" "taped" "I") (by decide +kernel)) (fun _ h9 => h9) rfl dX12_feed_103 ?_
  refine lv_iconst (v := 1) hx hb dX12_feed_106 (by decide) ?_
  refine lv_iadd hx hb dX12_feed_107 ?_
  refine lv_topi (fun z_111 ez_111 => ?_)
  obtain rfl : z_111 = (11 : Int32) := ez_111.trans (by decide)
  refine va_put (D := (dC, dI)) (ci := 12) (v := .int 11) (ty := .int) (C := RX12) (T := TX12) (N := 65) hx hb hts im_feed_RX12 tyX12 tyX12_ok nmX12 hown hK hP hD hS 0 rfl rfl 39 (by decide) (hts (.fieldLink RX12 318 "PutBackModel" "taped" "I") (by decide +kernel)) (fun _ h9 => h9) rfl (by decide +kernel) rfl rfl (Nat.le_of_ble_eq_true rfl) dX12_feed_108 (fun H locs hP hD hS => ?_)
  have hP : va_P (dC, dI) cls [(h0, .inr (12, [.int 0, .ref a1, .ref a2, .ref a3, .ref a4, .ref a5, .int 0, .ref a7, .ref a8, .int 0, .ref a10, .ref a11, .ref a12, .ref a13, .int 0, .ref a15, .ref a16, .ref a17, .ref a18, .ref a19, .ref a20, .ref a21, .ref a22, .int 0, .ref a24, .int 0, .ref a26, .ref a27, .int 0, .ref a29, .ref a30, .ref a31, .ref a32, .ref a33, .int 0, .ref a35, .ref a36, .int 0, .ref a38, .int 11, .int 0, .int 0, .int 0, .int 0, .long 0, .int 0, .int 0, .int (-1), .int (-1), .int 0, .ref a50, .ref a51, .int 0, .int 0, .ref a54, .ref a55, .int (-1), .ref a57, .ref a58, .ref a59, .ref a60, .int 0, .int 0, .int 0, .ref a64])), (a38, .inl (cB, 600, .inl g_110))] H := hP
  have hD : va_D A [(h0, .inr (12, [.int 0, .ref a1, .ref a2, .ref a3, .ref a4, .ref a5, .int 0, .ref a7, .ref a8, .int 0, .ref a10, .ref a11, .ref a12, .ref a13, .int 0, .ref a15, .ref a16, .ref a17, .ref a18, .ref a19, .ref a20, .ref a21, .ref a22, .int 0, .ref a24, .int 0, .ref a26, .ref a27, .int 0, .ref a29, .ref a30, .ref a31, .ref a32, .ref a33, .int 0, .ref a35, .ref a36, .int 0, .ref a38, .int 11, .int 0, .int 0, .int 0, .int 0, .long 0, .int 0, .int 0, .int (-1), .int (-1), .int 0, .ref a50, .ref a51, .int 0, .int 0, .ref a54, .ref a55, .int (-1), .ref a57, .ref a58, .ref a59, .ref a60, .int 0, .int 0, .int 0, .ref a64])), (a38, .inl (cB, 600, .inl g_110))] := hD
  refine lv_iinc (v := 11) (lv' := [(6, .int 11), (7, .int v3), (0, .ref h0), (1, .int v1), (2, .int v2), (3, .int v3), (4, .int v4), (5, .int v5)]) hx hb dX12_feed_111 hl (k := 1) rfl (by decide) (by decide) rfl (fun ls hl => ?_)
  refine lv_goto (tgt := 23) hx hb dX12_feed_114 (by decide) ?_
  refine lv_iload hx hb dX12_feed_23 (lv_at hl 0 rfl) ?_
  refine lv_bipush (v := 20) hx hb dX12_feed_25 (by decide) ?_
  refine lv_icmp_ge (tgt := 117) hx hb dX12_feed_27 (by decide) (fun c_112 => ?_) (fun c_112 => ?_)
  · exact (by revert c_112; decide : False).elim
  refine lv_iload hx hb dX12_feed_30 (lv_at hl 0 rfl) ?_
  refine lv_iconst (v := 4) hx hb dX12_feed_32 (by decide) ?_
  refine lv_icmp_ge (tgt := 40) hx hb dX12_feed_33 (by decide) (fun c_113 => ?_) (fun c_113 => ?_)
  rotate_left
  · exact (by revert c_113; decide : False).elim
  refine lv_iload hx hb dX12_feed_40 (lv_at hl 0 rfl) ?_
  refine lv_bipush (v := 8) hx hb dX12_feed_42 (by decide) ?_
  refine lv_icmp_ge (tgt := 51) hx hb dX12_feed_44 (by decide) (fun c_114 => ?_) (fun c_114 => ?_)
  rotate_left
  · exact (by revert c_114; decide : False).elim
  refine lv_iload hx hb dX12_feed_51 (lv_at hl 0 rfl) ?_
  refine lv_bipush (v := 12) hx hb dX12_feed_53 (by decide) ?_
  refine lv_icmp_ge (tgt := 62) hx hb dX12_feed_55 (by decide) (fun c_115 => ?_) (fun c_115 => ?_)
  · exact (by revert c_115; decide : False).elim
  refine lv_iload_n hx hb dX12_feed_58 rfl (lv_at hl 5 rfl) ?_
  refine lv_goto (tgt := 76) hx hb dX12_feed_59 (by decide) ?_
  refine lv_istore (lv' := [(7, .int v3), (6, .int 11), (0, .ref h0), (1, .int v1), (2, .int v2), (3, .int v3), (4, .int v4), (5, .int v5)]) hx hb dX12_feed_76 hl (by decide) rfl (fun ls hl => ?_)
  refine lv_aload_n hx hb dX12_feed_78 rfl (lv_at hl 2 rfl) ?_
  refine va_get (D := (dC, dI)) (ci := 12) (v := .ref a38) (C := RX12) (T := TX12) (N := 65) hx hb hts im_feed_RX12 hown hK hP 0 rfl rfl 38 (by decide) (hts (.fieldLink RX12 101 "PutBackModel" "tape" "[B") (by decide +kernel)) (fun _ h9 => h9) rfl dX12_feed_79 ?_
  refine lv_aload_n hx hb dX12_feed_82 rfl (lv_at hl 2 rfl) ?_
  refine va_get (D := (dC, dI)) (ci := 12) (v := .int 11) (C := RX12) (T := TX12) (N := 65) hx hb hts im_feed_RX12 hown hK hP 0 rfl rfl 39 (by decide) (hts (.fieldLink RX12 318 "PutBackModel" "taped" "I") (by decide +kernel)) (fun _ h9 => h9) rfl dX12_feed_83 ?_
  refine lv_iload hx hb dX12_feed_86 (lv_at hl 0 rfl) ?_
  refine lv_bipush (v := 24) hx hb dX12_feed_88 (by decide) ?_
  refine lv_bipush (v := 8) hx hb dX12_feed_90 (by decide) ?_
  refine lv_iload hx hb dX12_feed_92 (lv_at hl 1 rfl) ?_
  refine lv_iconst (v := 4) hx hb dX12_feed_94 (by decide) ?_
  refine lv_irem hx hb dX12_feed_95 (by decide) ?_
  refine lv_topi (fun z_116 ez_116 => ?_)
  obtain rfl : z_116 = (3 : Int32) := ez_116.trans (by decide)
  refine lv_imul hx hb dX12_feed_96 ?_
  refine lv_topi (fun z_117 ez_117 => ?_)
  obtain rfl : z_117 = (24 : Int32) := ez_117.trans (by decide)
  refine lv_isub hx hb dX12_feed_97 ?_
  refine lv_topi (fun z_118 ez_118 => ?_)
  obtain rfl : z_118 = (0 : Int32) := ez_118.trans (by decide)
  refine lv_ishr hx hb dX12_feed_98 ?_
  refine lv_topi (fun z_119 ez_119 => ?_)
  refine lv_i2b hx hb dX12_feed_99 rfl ?_
  refine lv_topi (fun z_120 ez_120 => ?_)
  refine va_bast hx hb hK hP hD hS 1 0 rfl rfl (by unfold vp_in; decide) dX12_feed_100 (fun H locs hP hD hS => ?_)
  have hP : va_P (dC, dI) cls [(h0, .inr (12, [.int 0, .ref a1, .ref a2, .ref a3, .ref a4, .ref a5, .int 0, .ref a7, .ref a8, .int 0, .ref a10, .ref a11, .ref a12, .ref a13, .int 0, .ref a15, .ref a16, .ref a17, .ref a18, .ref a19, .ref a20, .ref a21, .ref a22, .int 0, .ref a24, .int 0, .ref a26, .ref a27, .int 0, .ref a29, .ref a30, .ref a31, .ref a32, .ref a33, .int 0, .ref a35, .ref a36, .int 0, .ref a38, .int 11, .int 0, .int 0, .int 0, .int 0, .long 0, .int 0, .int 0, .int (-1), .int (-1), .int 0, .ref a50, .ref a51, .int 0, .int 0, .ref a54, .ref a55, .int (-1), .ref a57, .ref a58, .ref a59, .ref a60, .int 0, .int 0, .int 0, .ref a64])), (a38, .inl (cB, 600, .inl (upd g_110 (11 : Int32).toNatClampNeg (vp_nar .byte z_120))))] H := hP
  have hD : va_D A [(h0, .inr (12, [.int 0, .ref a1, .ref a2, .ref a3, .ref a4, .ref a5, .int 0, .ref a7, .ref a8, .int 0, .ref a10, .ref a11, .ref a12, .ref a13, .int 0, .ref a15, .ref a16, .ref a17, .ref a18, .ref a19, .ref a20, .ref a21, .ref a22, .int 0, .ref a24, .int 0, .ref a26, .ref a27, .int 0, .ref a29, .ref a30, .ref a31, .ref a32, .ref a33, .int 0, .ref a35, .ref a36, .int 0, .ref a38, .int 11, .int 0, .int 0, .int 0, .int 0, .long 0, .int 0, .int 0, .int (-1), .int (-1), .int 0, .ref a50, .ref a51, .int 0, .int 0, .ref a54, .ref a55, .int (-1), .ref a57, .ref a58, .ref a59, .ref a60, .int 0, .int 0, .int 0, .ref a64])), (a38, .inl (cB, 600, .inl (upd g_110 (11 : Int32).toNatClampNeg (vp_nar .byte z_120))))] := hD
  generalize (upd g_110 (11 : Int32).toNatClampNeg (vp_nar .byte z_120)) = g_121 at hP hD
  refine lv_aload_n hx hb dX12_feed_101 rfl (lv_at hl 2 rfl) ?_
  refine lv_aload_n hx hb dX12_feed_102 rfl (lv_at hl 2 rfl) ?_
  refine va_get (D := (dC, dI)) (ci := 12) (v := .int 11) (C := RX12) (T := TX12) (N := 65) hx hb hts im_feed_RX12 hown hK hP 0 rfl rfl 39 (by decide) (hts (.fieldLink RX12 318 "PutBackModel" "taped" "I") (by decide +kernel)) (fun _ h9 => h9) rfl dX12_feed_103 ?_
  refine lv_iconst (v := 1) hx hb dX12_feed_106 (by decide) ?_
  refine lv_iadd hx hb dX12_feed_107 ?_
  refine lv_topi (fun z_122 ez_122 => ?_)
  obtain rfl : z_122 = (12 : Int32) := ez_122.trans (by decide)
  refine va_put (D := (dC, dI)) (ci := 12) (v := .int 12) (ty := .int) (C := RX12) (T := TX12) (N := 65) hx hb hts im_feed_RX12 tyX12 tyX12_ok nmX12 hown hK hP hD hS 0 rfl rfl 39 (by decide) (hts (.fieldLink RX12 318 "PutBackModel" "taped" "I") (by decide +kernel)) (fun _ h9 => h9) rfl (by decide +kernel) rfl rfl (Nat.le_of_ble_eq_true rfl) dX12_feed_108 (fun H locs hP hD hS => ?_)
  have hP : va_P (dC, dI) cls [(h0, .inr (12, [.int 0, .ref a1, .ref a2, .ref a3, .ref a4, .ref a5, .int 0, .ref a7, .ref a8, .int 0, .ref a10, .ref a11, .ref a12, .ref a13, .int 0, .ref a15, .ref a16, .ref a17, .ref a18, .ref a19, .ref a20, .ref a21, .ref a22, .int 0, .ref a24, .int 0, .ref a26, .ref a27, .int 0, .ref a29, .ref a30, .ref a31, .ref a32, .ref a33, .int 0, .ref a35, .ref a36, .int 0, .ref a38, .int 12, .int 0, .int 0, .int 0, .int 0, .long 0, .int 0, .int 0, .int (-1), .int (-1), .int 0, .ref a50, .ref a51, .int 0, .int 0, .ref a54, .ref a55, .int (-1), .ref a57, .ref a58, .ref a59, .ref a60, .int 0, .int 0, .int 0, .ref a64])), (a38, .inl (cB, 600, .inl g_121))] H := hP
  have hD : va_D A [(h0, .inr (12, [.int 0, .ref a1, .ref a2, .ref a3, .ref a4, .ref a5, .int 0, .ref a7, .ref a8, .int 0, .ref a10, .ref a11, .ref a12, .ref a13, .int 0, .ref a15, .ref a16, .ref a17, .ref a18, .ref a19, .ref a20, .ref a21, .ref a22, .int 0, .ref a24, .int 0, .ref a26, .ref a27, .int 0, .ref a29, .ref a30, .ref a31, .ref a32, .ref a33, .int 0, .ref a35, .ref a36, .int 0, .ref a38, .int 12, .int 0, .int 0, .int 0, .int 0, .long 0, .int 0, .int 0, .int (-1), .int (-1), .int 0, .ref a50, .ref a51, .int 0, .int 0, .ref a54, .ref a55, .int (-1), .ref a57, .ref a58, .ref a59, .ref a60, .int 0, .int 0, .int 0, .ref a64])), (a38, .inl (cB, 600, .inl g_121))] := hD
  refine lv_iinc (v := 12) (lv' := [(6, .int 12), (7, .int v3), (0, .ref h0), (1, .int v1), (2, .int v2), (3, .int v3), (4, .int v4), (5, .int v5)]) hx hb dX12_feed_111 hl (k := 1) rfl (by decide) (by decide) rfl (fun ls hl => ?_)
  refine lv_goto (tgt := 23) hx hb dX12_feed_114 (by decide) ?_
  refine lv_iload hx hb dX12_feed_23 (lv_at hl 0 rfl) ?_
  refine lv_bipush (v := 20) hx hb dX12_feed_25 (by decide) ?_
  refine lv_icmp_ge (tgt := 117) hx hb dX12_feed_27 (by decide) (fun c_123 => ?_) (fun c_123 => ?_)
  · exact (by revert c_123; decide : False).elim
  refine lv_iload hx hb dX12_feed_30 (lv_at hl 0 rfl) ?_
  refine lv_iconst (v := 4) hx hb dX12_feed_32 (by decide) ?_
  refine lv_icmp_ge (tgt := 40) hx hb dX12_feed_33 (by decide) (fun c_124 => ?_) (fun c_124 => ?_)
  rotate_left
  · exact (by revert c_124; decide : False).elim
  refine lv_iload hx hb dX12_feed_40 (lv_at hl 0 rfl) ?_
  refine lv_bipush (v := 8) hx hb dX12_feed_42 (by decide) ?_
  refine lv_icmp_ge (tgt := 51) hx hb dX12_feed_44 (by decide) (fun c_125 => ?_) (fun c_125 => ?_)
  rotate_left
  · exact (by revert c_125; decide : False).elim
  refine lv_iload hx hb dX12_feed_51 (lv_at hl 0 rfl) ?_
  refine lv_bipush (v := 12) hx hb dX12_feed_53 (by decide) ?_
  refine lv_icmp_ge (tgt := 62) hx hb dX12_feed_55 (by decide) (fun c_126 => ?_) (fun c_126 => ?_)
  rotate_left
  · exact (by revert c_126; decide : False).elim
  refine lv_iload hx hb dX12_feed_62 (lv_at hl 0 rfl) ?_
  refine lv_bipush (v := 16) hx hb dX12_feed_64 (by decide) ?_
  refine lv_icmp_ge (tgt := 74) hx hb dX12_feed_66 (by decide) (fun c_127 => ?_) (fun c_127 => ?_)
  · exact (by revert c_127; decide : False).elim
  refine lv_iload hx hb dX12_feed_69 (lv_at hl 6 rfl) ?_
  refine lv_goto (tgt := 76) hx hb dX12_feed_71 (by decide) ?_
  refine lv_istore (lv' := [(7, .int v4), (6, .int 12), (0, .ref h0), (1, .int v1), (2, .int v2), (3, .int v3), (4, .int v4), (5, .int v5)]) hx hb dX12_feed_76 hl (by decide) rfl (fun ls hl => ?_)
  refine lv_aload_n hx hb dX12_feed_78 rfl (lv_at hl 2 rfl) ?_
  refine va_get (D := (dC, dI)) (ci := 12) (v := .ref a38) (C := RX12) (T := TX12) (N := 65) hx hb hts im_feed_RX12 hown hK hP 0 rfl rfl 38 (by decide) (hts (.fieldLink RX12 101 "PutBackModel" "tape" "[B") (by decide +kernel)) (fun _ h9 => h9) rfl dX12_feed_79 ?_
  refine lv_aload_n hx hb dX12_feed_82 rfl (lv_at hl 2 rfl) ?_
  refine va_get (D := (dC, dI)) (ci := 12) (v := .int 12) (C := RX12) (T := TX12) (N := 65) hx hb hts im_feed_RX12 hown hK hP 0 rfl rfl 39 (by decide) (hts (.fieldLink RX12 318 "PutBackModel" "taped" "I") (by decide +kernel)) (fun _ h9 => h9) rfl dX12_feed_83 ?_
  refine lv_iload hx hb dX12_feed_86 (lv_at hl 0 rfl) ?_
  refine lv_bipush (v := 24) hx hb dX12_feed_88 (by decide) ?_
  refine lv_bipush (v := 8) hx hb dX12_feed_90 (by decide) ?_
  refine lv_iload hx hb dX12_feed_92 (lv_at hl 1 rfl) ?_
  refine lv_iconst (v := 4) hx hb dX12_feed_94 (by decide) ?_
  refine lv_irem hx hb dX12_feed_95 (by decide) ?_
  refine lv_topi (fun z_128 ez_128 => ?_)
  obtain rfl : z_128 = (0 : Int32) := ez_128.trans (by decide)
  refine lv_imul hx hb dX12_feed_96 ?_
  refine lv_topi (fun z_129 ez_129 => ?_)
  obtain rfl : z_129 = (0 : Int32) := ez_129.trans (by decide)
  refine lv_isub hx hb dX12_feed_97 ?_
  refine lv_topi (fun z_130 ez_130 => ?_)
  obtain rfl : z_130 = (24 : Int32) := ez_130.trans (by decide)
  refine lv_ishr hx hb dX12_feed_98 ?_
  refine lv_topi (fun z_131 ez_131 => ?_)
  refine lv_i2b hx hb dX12_feed_99 rfl ?_
  refine lv_topi (fun z_132 ez_132 => ?_)
  refine va_bast hx hb hK hP hD hS 1 0 rfl rfl (by unfold vp_in; decide) dX12_feed_100 (fun H locs hP hD hS => ?_)
  have hP : va_P (dC, dI) cls [(h0, .inr (12, [.int 0, .ref a1, .ref a2, .ref a3, .ref a4, .ref a5, .int 0, .ref a7, .ref a8, .int 0, .ref a10, .ref a11, .ref a12, .ref a13, .int 0, .ref a15, .ref a16, .ref a17, .ref a18, .ref a19, .ref a20, .ref a21, .ref a22, .int 0, .ref a24, .int 0, .ref a26, .ref a27, .int 0, .ref a29, .ref a30, .ref a31, .ref a32, .ref a33, .int 0, .ref a35, .ref a36, .int 0, .ref a38, .int 12, .int 0, .int 0, .int 0, .int 0, .long 0, .int 0, .int 0, .int (-1), .int (-1), .int 0, .ref a50, .ref a51, .int 0, .int 0, .ref a54, .ref a55, .int (-1), .ref a57, .ref a58, .ref a59, .ref a60, .int 0, .int 0, .int 0, .ref a64])), (a38, .inl (cB, 600, .inl (upd g_121 (12 : Int32).toNatClampNeg (vp_nar .byte z_132))))] H := hP
  have hD : va_D A [(h0, .inr (12, [.int 0, .ref a1, .ref a2, .ref a3, .ref a4, .ref a5, .int 0, .ref a7, .ref a8, .int 0, .ref a10, .ref a11, .ref a12, .ref a13, .int 0, .ref a15, .ref a16, .ref a17, .ref a18, .ref a19, .ref a20, .ref a21, .ref a22, .int 0, .ref a24, .int 0, .ref a26, .ref a27, .int 0, .ref a29, .ref a30, .ref a31, .ref a32, .ref a33, .int 0, .ref a35, .ref a36, .int 0, .ref a38, .int 12, .int 0, .int 0, .int 0, .int 0, .long 0, .int 0, .int 0, .int (-1), .int (-1), .int 0, .ref a50, .ref a51, .int 0, .int 0, .ref a54, .ref a55, .int (-1), .ref a57, .ref a58, .ref a59, .ref a60, .int 0, .int 0, .int 0, .ref a64])), (a38, .inl (cB, 600, .inl (upd g_121 (12 : Int32).toNatClampNeg (vp_nar .byte z_132))))] := hD
  generalize (upd g_121 (12 : Int32).toNatClampNeg (vp_nar .byte z_132)) = g_133 at hP hD
  refine lv_aload_n hx hb dX12_feed_101 rfl (lv_at hl 2 rfl) ?_
  refine lv_aload_n hx hb dX12_feed_102 rfl (lv_at hl 2 rfl) ?_
  refine va_get (D := (dC, dI)) (ci := 12) (v := .int 12) (C := RX12) (T := TX12) (N := 65) hx hb hts im_feed_RX12 hown hK hP 0 rfl rfl 39 (by decide) (hts (.fieldLink RX12 318 "PutBackModel" "taped" "I") (by decide +kernel)) (fun _ h9 => h9) rfl dX12_feed_103 ?_
  refine lv_iconst (v := 1) hx hb dX12_feed_106 (by decide) ?_
  refine lv_iadd hx hb dX12_feed_107 ?_
  refine lv_topi (fun z_134 ez_134 => ?_)
  obtain rfl : z_134 = (13 : Int32) := ez_134.trans (by decide)
  refine va_put (D := (dC, dI)) (ci := 12) (v := .int 13) (ty := .int) (C := RX12) (T := TX12) (N := 65) hx hb hts im_feed_RX12 tyX12 tyX12_ok nmX12 hown hK hP hD hS 0 rfl rfl 39 (by decide) (hts (.fieldLink RX12 318 "PutBackModel" "taped" "I") (by decide +kernel)) (fun _ h9 => h9) rfl (by decide +kernel) rfl rfl (Nat.le_of_ble_eq_true rfl) dX12_feed_108 (fun H locs hP hD hS => ?_)
  have hP : va_P (dC, dI) cls [(h0, .inr (12, [.int 0, .ref a1, .ref a2, .ref a3, .ref a4, .ref a5, .int 0, .ref a7, .ref a8, .int 0, .ref a10, .ref a11, .ref a12, .ref a13, .int 0, .ref a15, .ref a16, .ref a17, .ref a18, .ref a19, .ref a20, .ref a21, .ref a22, .int 0, .ref a24, .int 0, .ref a26, .ref a27, .int 0, .ref a29, .ref a30, .ref a31, .ref a32, .ref a33, .int 0, .ref a35, .ref a36, .int 0, .ref a38, .int 13, .int 0, .int 0, .int 0, .int 0, .long 0, .int 0, .int 0, .int (-1), .int (-1), .int 0, .ref a50, .ref a51, .int 0, .int 0, .ref a54, .ref a55, .int (-1), .ref a57, .ref a58, .ref a59, .ref a60, .int 0, .int 0, .int 0, .ref a64])), (a38, .inl (cB, 600, .inl g_133))] H := hP
  have hD : va_D A [(h0, .inr (12, [.int 0, .ref a1, .ref a2, .ref a3, .ref a4, .ref a5, .int 0, .ref a7, .ref a8, .int 0, .ref a10, .ref a11, .ref a12, .ref a13, .int 0, .ref a15, .ref a16, .ref a17, .ref a18, .ref a19, .ref a20, .ref a21, .ref a22, .int 0, .ref a24, .int 0, .ref a26, .ref a27, .int 0, .ref a29, .ref a30, .ref a31, .ref a32, .ref a33, .int 0, .ref a35, .ref a36, .int 0, .ref a38, .int 13, .int 0, .int 0, .int 0, .int 0, .long 0, .int 0, .int 0, .int (-1), .int (-1), .int 0, .ref a50, .ref a51, .int 0, .int 0, .ref a54, .ref a55, .int (-1), .ref a57, .ref a58, .ref a59, .ref a60, .int 0, .int 0, .int 0, .ref a64])), (a38, .inl (cB, 600, .inl g_133))] := hD
  refine lv_iinc (v := 13) (lv' := [(6, .int 13), (7, .int v4), (0, .ref h0), (1, .int v1), (2, .int v2), (3, .int v3), (4, .int v4), (5, .int v5)]) hx hb dX12_feed_111 hl (k := 1) rfl (by decide) (by decide) rfl (fun ls hl => ?_)
  refine lv_goto (tgt := 23) hx hb dX12_feed_114 (by decide) ?_
  refine lv_iload hx hb dX12_feed_23 (lv_at hl 0 rfl) ?_
  refine lv_bipush (v := 20) hx hb dX12_feed_25 (by decide) ?_
  refine lv_icmp_ge (tgt := 117) hx hb dX12_feed_27 (by decide) (fun c_135 => ?_) (fun c_135 => ?_)
  · exact (by revert c_135; decide : False).elim
  refine lv_iload hx hb dX12_feed_30 (lv_at hl 0 rfl) ?_
  refine lv_iconst (v := 4) hx hb dX12_feed_32 (by decide) ?_
  refine lv_icmp_ge (tgt := 40) hx hb dX12_feed_33 (by decide) (fun c_136 => ?_) (fun c_136 => ?_)
  rotate_left
  · exact (by revert c_136; decide : False).elim
  refine lv_iload hx hb dX12_feed_40 (lv_at hl 0 rfl) ?_
  refine lv_bipush (v := 8) hx hb dX12_feed_42 (by decide) ?_
  refine lv_icmp_ge (tgt := 51) hx hb dX12_feed_44 (by decide) (fun c_137 => ?_) (fun c_137 => ?_)
  rotate_left
  · exact (by revert c_137; decide : False).elim
  refine lv_iload hx hb dX12_feed_51 (lv_at hl 0 rfl) ?_
  refine lv_bipush (v := 12) hx hb dX12_feed_53 (by decide) ?_
  refine lv_icmp_ge (tgt := 62) hx hb dX12_feed_55 (by decide) (fun c_138 => ?_) (fun c_138 => ?_)
  rotate_left
  · exact (by revert c_138; decide : False).elim
  refine lv_iload hx hb dX12_feed_62 (lv_at hl 0 rfl) ?_
  refine lv_bipush (v := 16) hx hb dX12_feed_64 (by decide) ?_
  refine lv_icmp_ge (tgt := 74) hx hb dX12_feed_66 (by decide) (fun c_139 => ?_) (fun c_139 => ?_)
  · exact (by revert c_139; decide : False).elim
  refine lv_iload hx hb dX12_feed_69 (lv_at hl 6 rfl) ?_
  refine lv_goto (tgt := 76) hx hb dX12_feed_71 (by decide) ?_
  refine lv_istore (lv' := [(7, .int v4), (6, .int 13), (0, .ref h0), (1, .int v1), (2, .int v2), (3, .int v3), (4, .int v4), (5, .int v5)]) hx hb dX12_feed_76 hl (by decide) rfl (fun ls hl => ?_)
  refine lv_aload_n hx hb dX12_feed_78 rfl (lv_at hl 2 rfl) ?_
  refine va_get (D := (dC, dI)) (ci := 12) (v := .ref a38) (C := RX12) (T := TX12) (N := 65) hx hb hts im_feed_RX12 hown hK hP 0 rfl rfl 38 (by decide) (hts (.fieldLink RX12 101 "PutBackModel" "tape" "[B") (by decide +kernel)) (fun _ h9 => h9) rfl dX12_feed_79 ?_
  refine lv_aload_n hx hb dX12_feed_82 rfl (lv_at hl 2 rfl) ?_
  refine va_get (D := (dC, dI)) (ci := 12) (v := .int 13) (C := RX12) (T := TX12) (N := 65) hx hb hts im_feed_RX12 hown hK hP 0 rfl rfl 39 (by decide) (hts (.fieldLink RX12 318 "PutBackModel" "taped" "I") (by decide +kernel)) (fun _ h9 => h9) rfl dX12_feed_83 ?_
  refine lv_iload hx hb dX12_feed_86 (lv_at hl 0 rfl) ?_
  refine lv_bipush (v := 24) hx hb dX12_feed_88 (by decide) ?_
  refine lv_bipush (v := 8) hx hb dX12_feed_90 (by decide) ?_
  refine lv_iload hx hb dX12_feed_92 (lv_at hl 1 rfl) ?_
  refine lv_iconst (v := 4) hx hb dX12_feed_94 (by decide) ?_
  refine lv_irem hx hb dX12_feed_95 (by decide) ?_
  refine lv_topi (fun z_140 ez_140 => ?_)
  obtain rfl : z_140 = (1 : Int32) := ez_140.trans (by decide)
  refine lv_imul hx hb dX12_feed_96 ?_
  refine lv_topi (fun z_141 ez_141 => ?_)
  obtain rfl : z_141 = (8 : Int32) := ez_141.trans (by decide)
  refine lv_isub hx hb dX12_feed_97 ?_
  refine lv_topi (fun z_142 ez_142 => ?_)
  obtain rfl : z_142 = (16 : Int32) := ez_142.trans (by decide)
  refine lv_ishr hx hb dX12_feed_98 ?_
  refine lv_topi (fun z_143 ez_143 => ?_)
  refine lv_i2b hx hb dX12_feed_99 rfl ?_
  refine lv_topi (fun z_144 ez_144 => ?_)
  refine va_bast hx hb hK hP hD hS 1 0 rfl rfl (by unfold vp_in; decide) dX12_feed_100 (fun H locs hP hD hS => ?_)
  have hP : va_P (dC, dI) cls [(h0, .inr (12, [.int 0, .ref a1, .ref a2, .ref a3, .ref a4, .ref a5, .int 0, .ref a7, .ref a8, .int 0, .ref a10, .ref a11, .ref a12, .ref a13, .int 0, .ref a15, .ref a16, .ref a17, .ref a18, .ref a19, .ref a20, .ref a21, .ref a22, .int 0, .ref a24, .int 0, .ref a26, .ref a27, .int 0, .ref a29, .ref a30, .ref a31, .ref a32, .ref a33, .int 0, .ref a35, .ref a36, .int 0, .ref a38, .int 13, .int 0, .int 0, .int 0, .int 0, .long 0, .int 0, .int 0, .int (-1), .int (-1), .int 0, .ref a50, .ref a51, .int 0, .int 0, .ref a54, .ref a55, .int (-1), .ref a57, .ref a58, .ref a59, .ref a60, .int 0, .int 0, .int 0, .ref a64])), (a38, .inl (cB, 600, .inl (upd g_133 (13 : Int32).toNatClampNeg (vp_nar .byte z_144))))] H := hP
  have hD : va_D A [(h0, .inr (12, [.int 0, .ref a1, .ref a2, .ref a3, .ref a4, .ref a5, .int 0, .ref a7, .ref a8, .int 0, .ref a10, .ref a11, .ref a12, .ref a13, .int 0, .ref a15, .ref a16, .ref a17, .ref a18, .ref a19, .ref a20, .ref a21, .ref a22, .int 0, .ref a24, .int 0, .ref a26, .ref a27, .int 0, .ref a29, .ref a30, .ref a31, .ref a32, .ref a33, .int 0, .ref a35, .ref a36, .int 0, .ref a38, .int 13, .int 0, .int 0, .int 0, .int 0, .long 0, .int 0, .int 0, .int (-1), .int (-1), .int 0, .ref a50, .ref a51, .int 0, .int 0, .ref a54, .ref a55, .int (-1), .ref a57, .ref a58, .ref a59, .ref a60, .int 0, .int 0, .int 0, .ref a64])), (a38, .inl (cB, 600, .inl (upd g_133 (13 : Int32).toNatClampNeg (vp_nar .byte z_144))))] := hD
  generalize (upd g_133 (13 : Int32).toNatClampNeg (vp_nar .byte z_144)) = g_145 at hP hD
  refine lv_aload_n hx hb dX12_feed_101 rfl (lv_at hl 2 rfl) ?_
  refine lv_aload_n hx hb dX12_feed_102 rfl (lv_at hl 2 rfl) ?_
  refine va_get (D := (dC, dI)) (ci := 12) (v := .int 13) (C := RX12) (T := TX12) (N := 65) hx hb hts im_feed_RX12 hown hK hP 0 rfl rfl 39 (by decide) (hts (.fieldLink RX12 318 "PutBackModel" "taped" "I") (by decide +kernel)) (fun _ h9 => h9) rfl dX12_feed_103 ?_
  refine lv_iconst (v := 1) hx hb dX12_feed_106 (by decide) ?_
  refine lv_iadd hx hb dX12_feed_107 ?_
  refine lv_topi (fun z_146 ez_146 => ?_)
  obtain rfl : z_146 = (14 : Int32) := ez_146.trans (by decide)
  refine va_put (D := (dC, dI)) (ci := 12) (v := .int 14) (ty := .int) (C := RX12) (T := TX12) (N := 65) hx hb hts im_feed_RX12 tyX12 tyX12_ok nmX12 hown hK hP hD hS 0 rfl rfl 39 (by decide) (hts (.fieldLink RX12 318 "PutBackModel" "taped" "I") (by decide +kernel)) (fun _ h9 => h9) rfl (by decide +kernel) rfl rfl (Nat.le_of_ble_eq_true rfl) dX12_feed_108 (fun H locs hP hD hS => ?_)
  have hP : va_P (dC, dI) cls [(h0, .inr (12, [.int 0, .ref a1, .ref a2, .ref a3, .ref a4, .ref a5, .int 0, .ref a7, .ref a8, .int 0, .ref a10, .ref a11, .ref a12, .ref a13, .int 0, .ref a15, .ref a16, .ref a17, .ref a18, .ref a19, .ref a20, .ref a21, .ref a22, .int 0, .ref a24, .int 0, .ref a26, .ref a27, .int 0, .ref a29, .ref a30, .ref a31, .ref a32, .ref a33, .int 0, .ref a35, .ref a36, .int 0, .ref a38, .int 14, .int 0, .int 0, .int 0, .int 0, .long 0, .int 0, .int 0, .int (-1), .int (-1), .int 0, .ref a50, .ref a51, .int 0, .int 0, .ref a54, .ref a55, .int (-1), .ref a57, .ref a58, .ref a59, .ref a60, .int 0, .int 0, .int 0, .ref a64])), (a38, .inl (cB, 600, .inl g_145))] H := hP
  have hD : va_D A [(h0, .inr (12, [.int 0, .ref a1, .ref a2, .ref a3, .ref a4, .ref a5, .int 0, .ref a7, .ref a8, .int 0, .ref a10, .ref a11, .ref a12, .ref a13, .int 0, .ref a15, .ref a16, .ref a17, .ref a18, .ref a19, .ref a20, .ref a21, .ref a22, .int 0, .ref a24, .int 0, .ref a26, .ref a27, .int 0, .ref a29, .ref a30, .ref a31, .ref a32, .ref a33, .int 0, .ref a35, .ref a36, .int 0, .ref a38, .int 14, .int 0, .int 0, .int 0, .int 0, .long 0, .int 0, .int 0, .int (-1), .int (-1), .int 0, .ref a50, .ref a51, .int 0, .int 0, .ref a54, .ref a55, .int (-1), .ref a57, .ref a58, .ref a59, .ref a60, .int 0, .int 0, .int 0, .ref a64])), (a38, .inl (cB, 600, .inl g_145))] := hD
  refine lv_iinc (v := 14) (lv' := [(6, .int 14), (7, .int v4), (0, .ref h0), (1, .int v1), (2, .int v2), (3, .int v3), (4, .int v4), (5, .int v5)]) hx hb dX12_feed_111 hl (k := 1) rfl (by decide) (by decide) rfl (fun ls hl => ?_)
  refine lv_goto (tgt := 23) hx hb dX12_feed_114 (by decide) ?_
  refine lv_iload hx hb dX12_feed_23 (lv_at hl 0 rfl) ?_
  refine lv_bipush (v := 20) hx hb dX12_feed_25 (by decide) ?_
  refine lv_icmp_ge (tgt := 117) hx hb dX12_feed_27 (by decide) (fun c_147 => ?_) (fun c_147 => ?_)
  · exact (by revert c_147; decide : False).elim
  refine lv_iload hx hb dX12_feed_30 (lv_at hl 0 rfl) ?_
  refine lv_iconst (v := 4) hx hb dX12_feed_32 (by decide) ?_
  refine lv_icmp_ge (tgt := 40) hx hb dX12_feed_33 (by decide) (fun c_148 => ?_) (fun c_148 => ?_)
  rotate_left
  · exact (by revert c_148; decide : False).elim
  refine lv_iload hx hb dX12_feed_40 (lv_at hl 0 rfl) ?_
  refine lv_bipush (v := 8) hx hb dX12_feed_42 (by decide) ?_
  refine lv_icmp_ge (tgt := 51) hx hb dX12_feed_44 (by decide) (fun c_149 => ?_) (fun c_149 => ?_)
  rotate_left
  · exact (by revert c_149; decide : False).elim
  refine lv_iload hx hb dX12_feed_51 (lv_at hl 0 rfl) ?_
  refine lv_bipush (v := 12) hx hb dX12_feed_53 (by decide) ?_
  refine lv_icmp_ge (tgt := 62) hx hb dX12_feed_55 (by decide) (fun c_150 => ?_) (fun c_150 => ?_)
  rotate_left
  · exact (by revert c_150; decide : False).elim
  refine lv_iload hx hb dX12_feed_62 (lv_at hl 0 rfl) ?_
  refine lv_bipush (v := 16) hx hb dX12_feed_64 (by decide) ?_
  refine lv_icmp_ge (tgt := 74) hx hb dX12_feed_66 (by decide) (fun c_151 => ?_) (fun c_151 => ?_)
  · exact (by revert c_151; decide : False).elim
  refine lv_iload hx hb dX12_feed_69 (lv_at hl 6 rfl) ?_
  refine lv_goto (tgt := 76) hx hb dX12_feed_71 (by decide) ?_
  refine lv_istore (lv' := [(7, .int v4), (6, .int 14), (0, .ref h0), (1, .int v1), (2, .int v2), (3, .int v3), (4, .int v4), (5, .int v5)]) hx hb dX12_feed_76 hl (by decide) rfl (fun ls hl => ?_)
  refine lv_aload_n hx hb dX12_feed_78 rfl (lv_at hl 2 rfl) ?_
  refine va_get (D := (dC, dI)) (ci := 12) (v := .ref a38) (C := RX12) (T := TX12) (N := 65) hx hb hts im_feed_RX12 hown hK hP 0 rfl rfl 38 (by decide) (hts (.fieldLink RX12 101 "PutBackModel" "tape" "[B") (by decide +kernel)) (fun _ h9 => h9) rfl dX12_feed_79 ?_
  refine lv_aload_n hx hb dX12_feed_82 rfl (lv_at hl 2 rfl) ?_
  refine va_get (D := (dC, dI)) (ci := 12) (v := .int 14) (C := RX12) (T := TX12) (N := 65) hx hb hts im_feed_RX12 hown hK hP 0 rfl rfl 39 (by decide) (hts (.fieldLink RX12 318 "PutBackModel" "taped" "I") (by decide +kernel)) (fun _ h9 => h9) rfl dX12_feed_83 ?_
  refine lv_iload hx hb dX12_feed_86 (lv_at hl 0 rfl) ?_
  refine lv_bipush (v := 24) hx hb dX12_feed_88 (by decide) ?_
  refine lv_bipush (v := 8) hx hb dX12_feed_90 (by decide) ?_
  refine lv_iload hx hb dX12_feed_92 (lv_at hl 1 rfl) ?_
  refine lv_iconst (v := 4) hx hb dX12_feed_94 (by decide) ?_
  refine lv_irem hx hb dX12_feed_95 (by decide) ?_
  refine lv_topi (fun z_152 ez_152 => ?_)
  obtain rfl : z_152 = (2 : Int32) := ez_152.trans (by decide)
  refine lv_imul hx hb dX12_feed_96 ?_
  refine lv_topi (fun z_153 ez_153 => ?_)
  obtain rfl : z_153 = (16 : Int32) := ez_153.trans (by decide)
  refine lv_isub hx hb dX12_feed_97 ?_
  refine lv_topi (fun z_154 ez_154 => ?_)
  obtain rfl : z_154 = (8 : Int32) := ez_154.trans (by decide)
  refine lv_ishr hx hb dX12_feed_98 ?_
  refine lv_topi (fun z_155 ez_155 => ?_)
  refine lv_i2b hx hb dX12_feed_99 rfl ?_
  refine lv_topi (fun z_156 ez_156 => ?_)
  refine va_bast hx hb hK hP hD hS 1 0 rfl rfl (by unfold vp_in; decide) dX12_feed_100 (fun H locs hP hD hS => ?_)
  have hP : va_P (dC, dI) cls [(h0, .inr (12, [.int 0, .ref a1, .ref a2, .ref a3, .ref a4, .ref a5, .int 0, .ref a7, .ref a8, .int 0, .ref a10, .ref a11, .ref a12, .ref a13, .int 0, .ref a15, .ref a16, .ref a17, .ref a18, .ref a19, .ref a20, .ref a21, .ref a22, .int 0, .ref a24, .int 0, .ref a26, .ref a27, .int 0, .ref a29, .ref a30, .ref a31, .ref a32, .ref a33, .int 0, .ref a35, .ref a36, .int 0, .ref a38, .int 14, .int 0, .int 0, .int 0, .int 0, .long 0, .int 0, .int 0, .int (-1), .int (-1), .int 0, .ref a50, .ref a51, .int 0, .int 0, .ref a54, .ref a55, .int (-1), .ref a57, .ref a58, .ref a59, .ref a60, .int 0, .int 0, .int 0, .ref a64])), (a38, .inl (cB, 600, .inl (upd g_145 (14 : Int32).toNatClampNeg (vp_nar .byte z_156))))] H := hP
  have hD : va_D A [(h0, .inr (12, [.int 0, .ref a1, .ref a2, .ref a3, .ref a4, .ref a5, .int 0, .ref a7, .ref a8, .int 0, .ref a10, .ref a11, .ref a12, .ref a13, .int 0, .ref a15, .ref a16, .ref a17, .ref a18, .ref a19, .ref a20, .ref a21, .ref a22, .int 0, .ref a24, .int 0, .ref a26, .ref a27, .int 0, .ref a29, .ref a30, .ref a31, .ref a32, .ref a33, .int 0, .ref a35, .ref a36, .int 0, .ref a38, .int 14, .int 0, .int 0, .int 0, .int 0, .long 0, .int 0, .int 0, .int (-1), .int (-1), .int 0, .ref a50, .ref a51, .int 0, .int 0, .ref a54, .ref a55, .int (-1), .ref a57, .ref a58, .ref a59, .ref a60, .int 0, .int 0, .int 0, .ref a64])), (a38, .inl (cB, 600, .inl (upd g_145 (14 : Int32).toNatClampNeg (vp_nar .byte z_156))))] := hD
  generalize (upd g_145 (14 : Int32).toNatClampNeg (vp_nar .byte z_156)) = g_157 at hP hD
  refine lv_aload_n hx hb dX12_feed_101 rfl (lv_at hl 2 rfl) ?_
  refine lv_aload_n hx hb dX12_feed_102 rfl (lv_at hl 2 rfl) ?_
  refine va_get (D := (dC, dI)) (ci := 12) (v := .int 14) (C := RX12) (T := TX12) (N := 65) hx hb hts im_feed_RX12 hown hK hP 0 rfl rfl 39 (by decide) (hts (.fieldLink RX12 318 "PutBackModel" "taped" "I") (by decide +kernel)) (fun _ h9 => h9) rfl dX12_feed_103 ?_
  refine lv_iconst (v := 1) hx hb dX12_feed_106 (by decide) ?_
  refine lv_iadd hx hb dX12_feed_107 ?_
  refine lv_topi (fun z_158 ez_158 => ?_)
  obtain rfl : z_158 = (15 : Int32) := ez_158.trans (by decide)
  refine va_put (D := (dC, dI)) (ci := 12) (v := .int 15) (ty := .int) (C := RX12) (T := TX12) (N := 65) hx hb hts im_feed_RX12 tyX12 tyX12_ok nmX12 hown hK hP hD hS 0 rfl rfl 39 (by decide) (hts (.fieldLink RX12 318 "PutBackModel" "taped" "I") (by decide +kernel)) (fun _ h9 => h9) rfl (by decide +kernel) rfl rfl (Nat.le_of_ble_eq_true rfl) dX12_feed_108 (fun H locs hP hD hS => ?_)
  have hP : va_P (dC, dI) cls [(h0, .inr (12, [.int 0, .ref a1, .ref a2, .ref a3, .ref a4, .ref a5, .int 0, .ref a7, .ref a8, .int 0, .ref a10, .ref a11, .ref a12, .ref a13, .int 0, .ref a15, .ref a16, .ref a17, .ref a18, .ref a19, .ref a20, .ref a21, .ref a22, .int 0, .ref a24, .int 0, .ref a26, .ref a27, .int 0, .ref a29, .ref a30, .ref a31, .ref a32, .ref a33, .int 0, .ref a35, .ref a36, .int 0, .ref a38, .int 15, .int 0, .int 0, .int 0, .int 0, .long 0, .int 0, .int 0, .int (-1), .int (-1), .int 0, .ref a50, .ref a51, .int 0, .int 0, .ref a54, .ref a55, .int (-1), .ref a57, .ref a58, .ref a59, .ref a60, .int 0, .int 0, .int 0, .ref a64])), (a38, .inl (cB, 600, .inl g_157))] H := hP
  have hD : va_D A [(h0, .inr (12, [.int 0, .ref a1, .ref a2, .ref a3, .ref a4, .ref a5, .int 0, .ref a7, .ref a8, .int 0, .ref a10, .ref a11, .ref a12, .ref a13, .int 0, .ref a15, .ref a16, .ref a17, .ref a18, .ref a19, .ref a20, .ref a21, .ref a22, .int 0, .ref a24, .int 0, .ref a26, .ref a27, .int 0, .ref a29, .ref a30, .ref a31, .ref a32, .ref a33, .int 0, .ref a35, .ref a36, .int 0, .ref a38, .int 15, .int 0, .int 0, .int 0, .int 0, .long 0, .int 0, .int 0, .int (-1), .int (-1), .int 0, .ref a50, .ref a51, .int 0, .int 0, .ref a54, .ref a55, .int (-1), .ref a57, .ref a58, .ref a59, .ref a60, .int 0, .int 0, .int 0, .ref a64])), (a38, .inl (cB, 600, .inl g_157))] := hD
  refine lv_iinc (v := 15) (lv' := [(6, .int 15), (7, .int v4), (0, .ref h0), (1, .int v1), (2, .int v2), (3, .int v3), (4, .int v4), (5, .int v5)]) hx hb dX12_feed_111 hl (k := 1) rfl (by decide) (by decide) rfl (fun ls hl => ?_)
  refine lv_goto (tgt := 23) hx hb dX12_feed_114 (by decide) ?_
  refine lv_iload hx hb dX12_feed_23 (lv_at hl 0 rfl) ?_
  refine lv_bipush (v := 20) hx hb dX12_feed_25 (by decide) ?_
  refine lv_icmp_ge (tgt := 117) hx hb dX12_feed_27 (by decide) (fun c_159 => ?_) (fun c_159 => ?_)
  · exact (by revert c_159; decide : False).elim
  refine lv_iload hx hb dX12_feed_30 (lv_at hl 0 rfl) ?_
  refine lv_iconst (v := 4) hx hb dX12_feed_32 (by decide) ?_
  refine lv_icmp_ge (tgt := 40) hx hb dX12_feed_33 (by decide) (fun c_160 => ?_) (fun c_160 => ?_)
  rotate_left
  · exact (by revert c_160; decide : False).elim
  refine lv_iload hx hb dX12_feed_40 (lv_at hl 0 rfl) ?_
  refine lv_bipush (v := 8) hx hb dX12_feed_42 (by decide) ?_
  refine lv_icmp_ge (tgt := 51) hx hb dX12_feed_44 (by decide) (fun c_161 => ?_) (fun c_161 => ?_)
  rotate_left
  · exact (by revert c_161; decide : False).elim
  refine lv_iload hx hb dX12_feed_51 (lv_at hl 0 rfl) ?_
  refine lv_bipush (v := 12) hx hb dX12_feed_53 (by decide) ?_
  refine lv_icmp_ge (tgt := 62) hx hb dX12_feed_55 (by decide) (fun c_162 => ?_) (fun c_162 => ?_)
  rotate_left
  · exact (by revert c_162; decide : False).elim
  refine lv_iload hx hb dX12_feed_62 (lv_at hl 0 rfl) ?_
  refine lv_bipush (v := 16) hx hb dX12_feed_64 (by decide) ?_
  refine lv_icmp_ge (tgt := 74) hx hb dX12_feed_66 (by decide) (fun c_163 => ?_) (fun c_163 => ?_)
  · exact (by revert c_163; decide : False).elim
  refine lv_iload hx hb dX12_feed_69 (lv_at hl 6 rfl) ?_
  refine lv_goto (tgt := 76) hx hb dX12_feed_71 (by decide) ?_
  refine lv_istore (lv' := [(7, .int v4), (6, .int 15), (0, .ref h0), (1, .int v1), (2, .int v2), (3, .int v3), (4, .int v4), (5, .int v5)]) hx hb dX12_feed_76 hl (by decide) rfl (fun ls hl => ?_)
  refine lv_aload_n hx hb dX12_feed_78 rfl (lv_at hl 2 rfl) ?_
  refine va_get (D := (dC, dI)) (ci := 12) (v := .ref a38) (C := RX12) (T := TX12) (N := 65) hx hb hts im_feed_RX12 hown hK hP 0 rfl rfl 38 (by decide) (hts (.fieldLink RX12 101 "PutBackModel" "tape" "[B") (by decide +kernel)) (fun _ h9 => h9) rfl dX12_feed_79 ?_
  refine lv_aload_n hx hb dX12_feed_82 rfl (lv_at hl 2 rfl) ?_
  refine va_get (D := (dC, dI)) (ci := 12) (v := .int 15) (C := RX12) (T := TX12) (N := 65) hx hb hts im_feed_RX12 hown hK hP 0 rfl rfl 39 (by decide) (hts (.fieldLink RX12 318 "PutBackModel" "taped" "I") (by decide +kernel)) (fun _ h9 => h9) rfl dX12_feed_83 ?_
  refine lv_iload hx hb dX12_feed_86 (lv_at hl 0 rfl) ?_
  refine lv_bipush (v := 24) hx hb dX12_feed_88 (by decide) ?_
  refine lv_bipush (v := 8) hx hb dX12_feed_90 (by decide) ?_
  refine lv_iload hx hb dX12_feed_92 (lv_at hl 1 rfl) ?_
  refine lv_iconst (v := 4) hx hb dX12_feed_94 (by decide) ?_
  refine lv_irem hx hb dX12_feed_95 (by decide) ?_
  refine lv_topi (fun z_164 ez_164 => ?_)
  obtain rfl : z_164 = (3 : Int32) := ez_164.trans (by decide)
  refine lv_imul hx hb dX12_feed_96 ?_
  refine lv_topi (fun z_165 ez_165 => ?_)
  obtain rfl : z_165 = (24 : Int32) := ez_165.trans (by decide)
  refine lv_isub hx hb dX12_feed_97 ?_
  refine lv_topi (fun z_166 ez_166 => ?_)
  obtain rfl : z_166 = (0 : Int32) := ez_166.trans (by decide)
  refine lv_ishr hx hb dX12_feed_98 ?_
  refine lv_topi (fun z_167 ez_167 => ?_)
  refine lv_i2b hx hb dX12_feed_99 rfl ?_
  refine lv_topi (fun z_168 ez_168 => ?_)
  refine va_bast hx hb hK hP hD hS 1 0 rfl rfl (by unfold vp_in; decide) dX12_feed_100 (fun H locs hP hD hS => ?_)
  have hP : va_P (dC, dI) cls [(h0, .inr (12, [.int 0, .ref a1, .ref a2, .ref a3, .ref a4, .ref a5, .int 0, .ref a7, .ref a8, .int 0, .ref a10, .ref a11, .ref a12, .ref a13, .int 0, .ref a15, .ref a16, .ref a17, .ref a18, .ref a19, .ref a20, .ref a21, .ref a22, .int 0, .ref a24, .int 0, .ref a26, .ref a27, .int 0, .ref a29, .ref a30, .ref a31, .ref a32, .ref a33, .int 0, .ref a35, .ref a36, .int 0, .ref a38, .int 15, .int 0, .int 0, .int 0, .int 0, .long 0, .int 0, .int 0, .int (-1), .int (-1), .int 0, .ref a50, .ref a51, .int 0, .int 0, .ref a54, .ref a55, .int (-1), .ref a57, .ref a58, .ref a59, .ref a60, .int 0, .int 0, .int 0, .ref a64])), (a38, .inl (cB, 600, .inl (upd g_157 (15 : Int32).toNatClampNeg (vp_nar .byte z_168))))] H := hP
  have hD : va_D A [(h0, .inr (12, [.int 0, .ref a1, .ref a2, .ref a3, .ref a4, .ref a5, .int 0, .ref a7, .ref a8, .int 0, .ref a10, .ref a11, .ref a12, .ref a13, .int 0, .ref a15, .ref a16, .ref a17, .ref a18, .ref a19, .ref a20, .ref a21, .ref a22, .int 0, .ref a24, .int 0, .ref a26, .ref a27, .int 0, .ref a29, .ref a30, .ref a31, .ref a32, .ref a33, .int 0, .ref a35, .ref a36, .int 0, .ref a38, .int 15, .int 0, .int 0, .int 0, .int 0, .long 0, .int 0, .int 0, .int (-1), .int (-1), .int 0, .ref a50, .ref a51, .int 0, .int 0, .ref a54, .ref a55, .int (-1), .ref a57, .ref a58, .ref a59, .ref a60, .int 0, .int 0, .int 0, .ref a64])), (a38, .inl (cB, 600, .inl (upd g_157 (15 : Int32).toNatClampNeg (vp_nar .byte z_168))))] := hD
  generalize (upd g_157 (15 : Int32).toNatClampNeg (vp_nar .byte z_168)) = g_169 at hP hD
  refine lv_aload_n hx hb dX12_feed_101 rfl (lv_at hl 2 rfl) ?_
  refine lv_aload_n hx hb dX12_feed_102 rfl (lv_at hl 2 rfl) ?_
  refine va_get (D := (dC, dI)) (ci := 12) (v := .int 15) (C := RX12) (T := TX12) (N := 65) hx hb hts im_feed_RX12 hown hK hP 0 rfl rfl 39 (by decide) (hts (.fieldLink RX12 318 "PutBackModel" "taped" "I") (by decide +kernel)) (fun _ h9 => h9) rfl dX12_feed_103 ?_
  refine lv_iconst (v := 1) hx hb dX12_feed_106 (by decide) ?_
  refine lv_iadd hx hb dX12_feed_107 ?_
  refine lv_topi (fun z_170 ez_170 => ?_)
  obtain rfl : z_170 = (16 : Int32) := ez_170.trans (by decide)
  refine va_put (D := (dC, dI)) (ci := 12) (v := .int 16) (ty := .int) (C := RX12) (T := TX12) (N := 65) hx hb hts im_feed_RX12 tyX12 tyX12_ok nmX12 hown hK hP hD hS 0 rfl rfl 39 (by decide) (hts (.fieldLink RX12 318 "PutBackModel" "taped" "I") (by decide +kernel)) (fun _ h9 => h9) rfl (by decide +kernel) rfl rfl (Nat.le_of_ble_eq_true rfl) dX12_feed_108 (fun H locs hP hD hS => ?_)
  have hP : va_P (dC, dI) cls [(h0, .inr (12, [.int 0, .ref a1, .ref a2, .ref a3, .ref a4, .ref a5, .int 0, .ref a7, .ref a8, .int 0, .ref a10, .ref a11, .ref a12, .ref a13, .int 0, .ref a15, .ref a16, .ref a17, .ref a18, .ref a19, .ref a20, .ref a21, .ref a22, .int 0, .ref a24, .int 0, .ref a26, .ref a27, .int 0, .ref a29, .ref a30, .ref a31, .ref a32, .ref a33, .int 0, .ref a35, .ref a36, .int 0, .ref a38, .int 16, .int 0, .int 0, .int 0, .int 0, .long 0, .int 0, .int 0, .int (-1), .int (-1), .int 0, .ref a50, .ref a51, .int 0, .int 0, .ref a54, .ref a55, .int (-1), .ref a57, .ref a58, .ref a59, .ref a60, .int 0, .int 0, .int 0, .ref a64])), (a38, .inl (cB, 600, .inl g_169))] H := hP
  have hD : va_D A [(h0, .inr (12, [.int 0, .ref a1, .ref a2, .ref a3, .ref a4, .ref a5, .int 0, .ref a7, .ref a8, .int 0, .ref a10, .ref a11, .ref a12, .ref a13, .int 0, .ref a15, .ref a16, .ref a17, .ref a18, .ref a19, .ref a20, .ref a21, .ref a22, .int 0, .ref a24, .int 0, .ref a26, .ref a27, .int 0, .ref a29, .ref a30, .ref a31, .ref a32, .ref a33, .int 0, .ref a35, .ref a36, .int 0, .ref a38, .int 16, .int 0, .int 0, .int 0, .int 0, .long 0, .int 0, .int 0, .int (-1), .int (-1), .int 0, .ref a50, .ref a51, .int 0, .int 0, .ref a54, .ref a55, .int (-1), .ref a57, .ref a58, .ref a59, .ref a60, .int 0, .int 0, .int 0, .ref a64])), (a38, .inl (cB, 600, .inl g_169))] := hD
  refine lv_iinc (v := 16) (lv' := [(6, .int 16), (7, .int v4), (0, .ref h0), (1, .int v1), (2, .int v2), (3, .int v3), (4, .int v4), (5, .int v5)]) hx hb dX12_feed_111 hl (k := 1) rfl (by decide) (by decide) rfl (fun ls hl => ?_)
  refine lv_goto (tgt := 23) hx hb dX12_feed_114 (by decide) ?_
  refine lv_iload hx hb dX12_feed_23 (lv_at hl 0 rfl) ?_
  refine lv_bipush (v := 20) hx hb dX12_feed_25 (by decide) ?_
  refine lv_icmp_ge (tgt := 117) hx hb dX12_feed_27 (by decide) (fun c_171 => ?_) (fun c_171 => ?_)
  · exact (by revert c_171; decide : False).elim
  refine lv_iload hx hb dX12_feed_30 (lv_at hl 0 rfl) ?_
  refine lv_iconst (v := 4) hx hb dX12_feed_32 (by decide) ?_
  refine lv_icmp_ge (tgt := 40) hx hb dX12_feed_33 (by decide) (fun c_172 => ?_) (fun c_172 => ?_)
  rotate_left
  · exact (by revert c_172; decide : False).elim
  refine lv_iload hx hb dX12_feed_40 (lv_at hl 0 rfl) ?_
  refine lv_bipush (v := 8) hx hb dX12_feed_42 (by decide) ?_
  refine lv_icmp_ge (tgt := 51) hx hb dX12_feed_44 (by decide) (fun c_173 => ?_) (fun c_173 => ?_)
  rotate_left
  · exact (by revert c_173; decide : False).elim
  refine lv_iload hx hb dX12_feed_51 (lv_at hl 0 rfl) ?_
  refine lv_bipush (v := 12) hx hb dX12_feed_53 (by decide) ?_
  refine lv_icmp_ge (tgt := 62) hx hb dX12_feed_55 (by decide) (fun c_174 => ?_) (fun c_174 => ?_)
  rotate_left
  · exact (by revert c_174; decide : False).elim
  refine lv_iload hx hb dX12_feed_62 (lv_at hl 0 rfl) ?_
  refine lv_bipush (v := 16) hx hb dX12_feed_64 (by decide) ?_
  refine lv_icmp_ge (tgt := 74) hx hb dX12_feed_66 (by decide) (fun c_175 => ?_) (fun c_175 => ?_)
  rotate_left
  · exact (by revert c_175; decide : False).elim
  refine lv_iload hx hb dX12_feed_74 (lv_at hl 7 rfl) ?_
  refine lv_istore (lv' := [(7, .int v5), (6, .int 16), (0, .ref h0), (1, .int v1), (2, .int v2), (3, .int v3), (4, .int v4), (5, .int v5)]) hx hb dX12_feed_76 hl (by decide) rfl (fun ls hl => ?_)
  refine lv_aload_n hx hb dX12_feed_78 rfl (lv_at hl 2 rfl) ?_
  refine va_get (D := (dC, dI)) (ci := 12) (v := .ref a38) (C := RX12) (T := TX12) (N := 65) hx hb hts im_feed_RX12 hown hK hP 0 rfl rfl 38 (by decide) (hts (.fieldLink RX12 101 "PutBackModel" "tape" "[B") (by decide +kernel)) (fun _ h9 => h9) rfl dX12_feed_79 ?_
  refine lv_aload_n hx hb dX12_feed_82 rfl (lv_at hl 2 rfl) ?_
  refine va_get (D := (dC, dI)) (ci := 12) (v := .int 16) (C := RX12) (T := TX12) (N := 65) hx hb hts im_feed_RX12 hown hK hP 0 rfl rfl 39 (by decide) (hts (.fieldLink RX12 318 "PutBackModel" "taped" "I") (by decide +kernel)) (fun _ h9 => h9) rfl dX12_feed_83 ?_
  refine lv_iload hx hb dX12_feed_86 (lv_at hl 0 rfl) ?_
  refine lv_bipush (v := 24) hx hb dX12_feed_88 (by decide) ?_
  refine lv_bipush (v := 8) hx hb dX12_feed_90 (by decide) ?_
  refine lv_iload hx hb dX12_feed_92 (lv_at hl 1 rfl) ?_
  refine lv_iconst (v := 4) hx hb dX12_feed_94 (by decide) ?_
  refine lv_irem hx hb dX12_feed_95 (by decide) ?_
  refine lv_topi (fun z_176 ez_176 => ?_)
  obtain rfl : z_176 = (0 : Int32) := ez_176.trans (by decide)
  refine lv_imul hx hb dX12_feed_96 ?_
  refine lv_topi (fun z_177 ez_177 => ?_)
  obtain rfl : z_177 = (0 : Int32) := ez_177.trans (by decide)
  refine lv_isub hx hb dX12_feed_97 ?_
  refine lv_topi (fun z_178 ez_178 => ?_)
  obtain rfl : z_178 = (24 : Int32) := ez_178.trans (by decide)
  refine lv_ishr hx hb dX12_feed_98 ?_
  refine lv_topi (fun z_179 ez_179 => ?_)
  refine lv_i2b hx hb dX12_feed_99 rfl ?_
  refine lv_topi (fun z_180 ez_180 => ?_)
  refine va_bast hx hb hK hP hD hS 1 0 rfl rfl (by unfold vp_in; decide) dX12_feed_100 (fun H locs hP hD hS => ?_)
  have hP : va_P (dC, dI) cls [(h0, .inr (12, [.int 0, .ref a1, .ref a2, .ref a3, .ref a4, .ref a5, .int 0, .ref a7, .ref a8, .int 0, .ref a10, .ref a11, .ref a12, .ref a13, .int 0, .ref a15, .ref a16, .ref a17, .ref a18, .ref a19, .ref a20, .ref a21, .ref a22, .int 0, .ref a24, .int 0, .ref a26, .ref a27, .int 0, .ref a29, .ref a30, .ref a31, .ref a32, .ref a33, .int 0, .ref a35, .ref a36, .int 0, .ref a38, .int 16, .int 0, .int 0, .int 0, .int 0, .long 0, .int 0, .int 0, .int (-1), .int (-1), .int 0, .ref a50, .ref a51, .int 0, .int 0, .ref a54, .ref a55, .int (-1), .ref a57, .ref a58, .ref a59, .ref a60, .int 0, .int 0, .int 0, .ref a64])), (a38, .inl (cB, 600, .inl (upd g_169 (16 : Int32).toNatClampNeg (vp_nar .byte z_180))))] H := hP
  have hD : va_D A [(h0, .inr (12, [.int 0, .ref a1, .ref a2, .ref a3, .ref a4, .ref a5, .int 0, .ref a7, .ref a8, .int 0, .ref a10, .ref a11, .ref a12, .ref a13, .int 0, .ref a15, .ref a16, .ref a17, .ref a18, .ref a19, .ref a20, .ref a21, .ref a22, .int 0, .ref a24, .int 0, .ref a26, .ref a27, .int 0, .ref a29, .ref a30, .ref a31, .ref a32, .ref a33, .int 0, .ref a35, .ref a36, .int 0, .ref a38, .int 16, .int 0, .int 0, .int 0, .int 0, .long 0, .int 0, .int 0, .int (-1), .int (-1), .int 0, .ref a50, .ref a51, .int 0, .int 0, .ref a54, .ref a55, .int (-1), .ref a57, .ref a58, .ref a59, .ref a60, .int 0, .int 0, .int 0, .ref a64])), (a38, .inl (cB, 600, .inl (upd g_169 (16 : Int32).toNatClampNeg (vp_nar .byte z_180))))] := hD
  generalize (upd g_169 (16 : Int32).toNatClampNeg (vp_nar .byte z_180)) = g_181 at hP hD
  refine lv_aload_n hx hb dX12_feed_101 rfl (lv_at hl 2 rfl) ?_
  refine lv_aload_n hx hb dX12_feed_102 rfl (lv_at hl 2 rfl) ?_
  refine va_get (D := (dC, dI)) (ci := 12) (v := .int 16) (C := RX12) (T := TX12) (N := 65) hx hb hts im_feed_RX12 hown hK hP 0 rfl rfl 39 (by decide) (hts (.fieldLink RX12 318 "PutBackModel" "taped" "I") (by decide +kernel)) (fun _ h9 => h9) rfl dX12_feed_103 ?_
  refine lv_iconst (v := 1) hx hb dX12_feed_106 (by decide) ?_
  refine lv_iadd hx hb dX12_feed_107 ?_
  refine lv_topi (fun z_182 ez_182 => ?_)
  obtain rfl : z_182 = (17 : Int32) := ez_182.trans (by decide)
  refine va_put (D := (dC, dI)) (ci := 12) (v := .int 17) (ty := .int) (C := RX12) (T := TX12) (N := 65) hx hb hts im_feed_RX12 tyX12 tyX12_ok nmX12 hown hK hP hD hS 0 rfl rfl 39 (by decide) (hts (.fieldLink RX12 318 "PutBackModel" "taped" "I") (by decide +kernel)) (fun _ h9 => h9) rfl (by decide +kernel) rfl rfl (Nat.le_of_ble_eq_true rfl) dX12_feed_108 (fun H locs hP hD hS => ?_)
  have hP : va_P (dC, dI) cls [(h0, .inr (12, [.int 0, .ref a1, .ref a2, .ref a3, .ref a4, .ref a5, .int 0, .ref a7, .ref a8, .int 0, .ref a10, .ref a11, .ref a12, .ref a13, .int 0, .ref a15, .ref a16, .ref a17, .ref a18, .ref a19, .ref a20, .ref a21, .ref a22, .int 0, .ref a24, .int 0, .ref a26, .ref a27, .int 0, .ref a29, .ref a30, .ref a31, .ref a32, .ref a33, .int 0, .ref a35, .ref a36, .int 0, .ref a38, .int 17, .int 0, .int 0, .int 0, .int 0, .long 0, .int 0, .int 0, .int (-1), .int (-1), .int 0, .ref a50, .ref a51, .int 0, .int 0, .ref a54, .ref a55, .int (-1), .ref a57, .ref a58, .ref a59, .ref a60, .int 0, .int 0, .int 0, .ref a64])), (a38, .inl (cB, 600, .inl g_181))] H := hP
  have hD : va_D A [(h0, .inr (12, [.int 0, .ref a1, .ref a2, .ref a3, .ref a4, .ref a5, .int 0, .ref a7, .ref a8, .int 0, .ref a10, .ref a11, .ref a12, .ref a13, .int 0, .ref a15, .ref a16, .ref a17, .ref a18, .ref a19, .ref a20, .ref a21, .ref a22, .int 0, .ref a24, .int 0, .ref a26, .ref a27, .int 0, .ref a29, .ref a30, .ref a31, .ref a32, .ref a33, .int 0, .ref a35, .ref a36, .int 0, .ref a38, .int 17, .int 0, .int 0, .int 0, .int 0, .long 0, .int 0, .int 0, .int (-1), .int (-1), .int 0, .ref a50, .ref a51, .int 0, .int 0, .ref a54, .ref a55, .int (-1), .ref a57, .ref a58, .ref a59, .ref a60, .int 0, .int 0, .int 0, .ref a64])), (a38, .inl (cB, 600, .inl g_181))] := hD
  refine lv_iinc (v := 17) (lv' := [(6, .int 17), (7, .int v5), (0, .ref h0), (1, .int v1), (2, .int v2), (3, .int v3), (4, .int v4), (5, .int v5)]) hx hb dX12_feed_111 hl (k := 1) rfl (by decide) (by decide) rfl (fun ls hl => ?_)
  refine lv_goto (tgt := 23) hx hb dX12_feed_114 (by decide) ?_
  refine lv_iload hx hb dX12_feed_23 (lv_at hl 0 rfl) ?_
  refine lv_bipush (v := 20) hx hb dX12_feed_25 (by decide) ?_
  refine lv_icmp_ge (tgt := 117) hx hb dX12_feed_27 (by decide) (fun c_183 => ?_) (fun c_183 => ?_)
  · exact (by revert c_183; decide : False).elim
  refine lv_iload hx hb dX12_feed_30 (lv_at hl 0 rfl) ?_
  refine lv_iconst (v := 4) hx hb dX12_feed_32 (by decide) ?_
  refine lv_icmp_ge (tgt := 40) hx hb dX12_feed_33 (by decide) (fun c_184 => ?_) (fun c_184 => ?_)
  rotate_left
  · exact (by revert c_184; decide : False).elim
  refine lv_iload hx hb dX12_feed_40 (lv_at hl 0 rfl) ?_
  refine lv_bipush (v := 8) hx hb dX12_feed_42 (by decide) ?_
  refine lv_icmp_ge (tgt := 51) hx hb dX12_feed_44 (by decide) (fun c_185 => ?_) (fun c_185 => ?_)
  rotate_left
  · exact (by revert c_185; decide : False).elim
  refine lv_iload hx hb dX12_feed_51 (lv_at hl 0 rfl) ?_
  refine lv_bipush (v := 12) hx hb dX12_feed_53 (by decide) ?_
  refine lv_icmp_ge (tgt := 62) hx hb dX12_feed_55 (by decide) (fun c_186 => ?_) (fun c_186 => ?_)
  rotate_left
  · exact (by revert c_186; decide : False).elim
  refine lv_iload hx hb dX12_feed_62 (lv_at hl 0 rfl) ?_
  refine lv_bipush (v := 16) hx hb dX12_feed_64 (by decide) ?_
  refine lv_icmp_ge (tgt := 74) hx hb dX12_feed_66 (by decide) (fun c_187 => ?_) (fun c_187 => ?_)
  rotate_left
  · exact (by revert c_187; decide : False).elim
  refine lv_iload hx hb dX12_feed_74 (lv_at hl 7 rfl) ?_
  refine lv_istore (lv' := [(7, .int v5), (6, .int 17), (0, .ref h0), (1, .int v1), (2, .int v2), (3, .int v3), (4, .int v4), (5, .int v5)]) hx hb dX12_feed_76 hl (by decide) rfl (fun ls hl => ?_)
  refine lv_aload_n hx hb dX12_feed_78 rfl (lv_at hl 2 rfl) ?_
  refine va_get (D := (dC, dI)) (ci := 12) (v := .ref a38) (C := RX12) (T := TX12) (N := 65) hx hb hts im_feed_RX12 hown hK hP 0 rfl rfl 38 (by decide) (hts (.fieldLink RX12 101 "PutBackModel" "tape" "[B") (by decide +kernel)) (fun _ h9 => h9) rfl dX12_feed_79 ?_
  refine lv_aload_n hx hb dX12_feed_82 rfl (lv_at hl 2 rfl) ?_
  refine va_get (D := (dC, dI)) (ci := 12) (v := .int 17) (C := RX12) (T := TX12) (N := 65) hx hb hts im_feed_RX12 hown hK hP 0 rfl rfl 39 (by decide) (hts (.fieldLink RX12 318 "PutBackModel" "taped" "I") (by decide +kernel)) (fun _ h9 => h9) rfl dX12_feed_83 ?_
  refine lv_iload hx hb dX12_feed_86 (lv_at hl 0 rfl) ?_
  refine lv_bipush (v := 24) hx hb dX12_feed_88 (by decide) ?_
  refine lv_bipush (v := 8) hx hb dX12_feed_90 (by decide) ?_
  refine lv_iload hx hb dX12_feed_92 (lv_at hl 1 rfl) ?_
  refine lv_iconst (v := 4) hx hb dX12_feed_94 (by decide) ?_
  refine lv_irem hx hb dX12_feed_95 (by decide) ?_
  refine lv_topi (fun z_188 ez_188 => ?_)
  obtain rfl : z_188 = (1 : Int32) := ez_188.trans (by decide)
  refine lv_imul hx hb dX12_feed_96 ?_
  refine lv_topi (fun z_189 ez_189 => ?_)
  obtain rfl : z_189 = (8 : Int32) := ez_189.trans (by decide)
  refine lv_isub hx hb dX12_feed_97 ?_
  refine lv_topi (fun z_190 ez_190 => ?_)
  obtain rfl : z_190 = (16 : Int32) := ez_190.trans (by decide)
  refine lv_ishr hx hb dX12_feed_98 ?_
  refine lv_topi (fun z_191 ez_191 => ?_)
  refine lv_i2b hx hb dX12_feed_99 rfl ?_
  refine lv_topi (fun z_192 ez_192 => ?_)
  refine va_bast hx hb hK hP hD hS 1 0 rfl rfl (by unfold vp_in; decide) dX12_feed_100 (fun H locs hP hD hS => ?_)
  have hP : va_P (dC, dI) cls [(h0, .inr (12, [.int 0, .ref a1, .ref a2, .ref a3, .ref a4, .ref a5, .int 0, .ref a7, .ref a8, .int 0, .ref a10, .ref a11, .ref a12, .ref a13, .int 0, .ref a15, .ref a16, .ref a17, .ref a18, .ref a19, .ref a20, .ref a21, .ref a22, .int 0, .ref a24, .int 0, .ref a26, .ref a27, .int 0, .ref a29, .ref a30, .ref a31, .ref a32, .ref a33, .int 0, .ref a35, .ref a36, .int 0, .ref a38, .int 17, .int 0, .int 0, .int 0, .int 0, .long 0, .int 0, .int 0, .int (-1), .int (-1), .int 0, .ref a50, .ref a51, .int 0, .int 0, .ref a54, .ref a55, .int (-1), .ref a57, .ref a58, .ref a59, .ref a60, .int 0, .int 0, .int 0, .ref a64])), (a38, .inl (cB, 600, .inl (upd g_181 (17 : Int32).toNatClampNeg (vp_nar .byte z_192))))] H := hP
  have hD : va_D A [(h0, .inr (12, [.int 0, .ref a1, .ref a2, .ref a3, .ref a4, .ref a5, .int 0, .ref a7, .ref a8, .int 0, .ref a10, .ref a11, .ref a12, .ref a13, .int 0, .ref a15, .ref a16, .ref a17, .ref a18, .ref a19, .ref a20, .ref a21, .ref a22, .int 0, .ref a24, .int 0, .ref a26, .ref a27, .int 0, .ref a29, .ref a30, .ref a31, .ref a32, .ref a33, .int 0, .ref a35, .ref a36, .int 0, .ref a38, .int 17, .int 0, .int 0, .int 0, .int 0, .long 0, .int 0, .int 0, .int (-1), .int (-1), .int 0, .ref a50, .ref a51, .int 0, .int 0, .ref a54, .ref a55, .int (-1), .ref a57, .ref a58, .ref a59, .ref a60, .int 0, .int 0, .int 0, .ref a64])), (a38, .inl (cB, 600, .inl (upd g_181 (17 : Int32).toNatClampNeg (vp_nar .byte z_192))))] := hD
  generalize (upd g_181 (17 : Int32).toNatClampNeg (vp_nar .byte z_192)) = g_193 at hP hD
  refine lv_aload_n hx hb dX12_feed_101 rfl (lv_at hl 2 rfl) ?_
  refine lv_aload_n hx hb dX12_feed_102 rfl (lv_at hl 2 rfl) ?_
  refine va_get (D := (dC, dI)) (ci := 12) (v := .int 17) (C := RX12) (T := TX12) (N := 65) hx hb hts im_feed_RX12 hown hK hP 0 rfl rfl 39 (by decide) (hts (.fieldLink RX12 318 "PutBackModel" "taped" "I") (by decide +kernel)) (fun _ h9 => h9) rfl dX12_feed_103 ?_
  refine lv_iconst (v := 1) hx hb dX12_feed_106 (by decide) ?_
  refine lv_iadd hx hb dX12_feed_107 ?_
  refine lv_topi (fun z_194 ez_194 => ?_)
  obtain rfl : z_194 = (18 : Int32) := ez_194.trans (by decide)
  refine va_put (D := (dC, dI)) (ci := 12) (v := .int 18) (ty := .int) (C := RX12) (T := TX12) (N := 65) hx hb hts im_feed_RX12 tyX12 tyX12_ok nmX12 hown hK hP hD hS 0 rfl rfl 39 (by decide) (hts (.fieldLink RX12 318 "PutBackModel" "taped" "I") (by decide +kernel)) (fun _ h9 => h9) rfl (by decide +kernel) rfl rfl (Nat.le_of_ble_eq_true rfl) dX12_feed_108 (fun H locs hP hD hS => ?_)
  have hP : va_P (dC, dI) cls [(h0, .inr (12, [.int 0, .ref a1, .ref a2, .ref a3, .ref a4, .ref a5, .int 0, .ref a7, .ref a8, .int 0, .ref a10, .ref a11, .ref a12, .ref a13, .int 0, .ref a15, .ref a16, .ref a17, .ref a18, .ref a19, .ref a20, .ref a21, .ref a22, .int 0, .ref a24, .int 0, .ref a26, .ref a27, .int 0, .ref a29, .ref a30, .ref a31, .ref a32, .ref a33, .int 0, .ref a35, .ref a36, .int 0, .ref a38, .int 18, .int 0, .int 0, .int 0, .int 0, .long 0, .int 0, .int 0, .int (-1), .int (-1), .int 0, .ref a50, .ref a51, .int 0, .int 0, .ref a54, .ref a55, .int (-1), .ref a57, .ref a58, .ref a59, .ref a60, .int 0, .int 0, .int 0, .ref a64])), (a38, .inl (cB, 600, .inl g_193))] H := hP
  have hD : va_D A [(h0, .inr (12, [.int 0, .ref a1, .ref a2, .ref a3, .ref a4, .ref a5, .int 0, .ref a7, .ref a8, .int 0, .ref a10, .ref a11, .ref a12, .ref a13, .int 0, .ref a15, .ref a16, .ref a17, .ref a18, .ref a19, .ref a20, .ref a21, .ref a22, .int 0, .ref a24, .int 0, .ref a26, .ref a27, .int 0, .ref a29, .ref a30, .ref a31, .ref a32, .ref a33, .int 0, .ref a35, .ref a36, .int 0, .ref a38, .int 18, .int 0, .int 0, .int 0, .int 0, .long 0, .int 0, .int 0, .int (-1), .int (-1), .int 0, .ref a50, .ref a51, .int 0, .int 0, .ref a54, .ref a55, .int (-1), .ref a57, .ref a58, .ref a59, .ref a60, .int 0, .int 0, .int 0, .ref a64])), (a38, .inl (cB, 600, .inl g_193))] := hD
  refine lv_iinc (v := 18) (lv' := [(6, .int 18), (7, .int v5), (0, .ref h0), (1, .int v1), (2, .int v2), (3, .int v3), (4, .int v4), (5, .int v5)]) hx hb dX12_feed_111 hl (k := 1) rfl (by decide) (by decide) rfl (fun ls hl => ?_)
  refine lv_goto (tgt := 23) hx hb dX12_feed_114 (by decide) ?_
  refine lv_iload hx hb dX12_feed_23 (lv_at hl 0 rfl) ?_
  refine lv_bipush (v := 20) hx hb dX12_feed_25 (by decide) ?_
  refine lv_icmp_ge (tgt := 117) hx hb dX12_feed_27 (by decide) (fun c_195 => ?_) (fun c_195 => ?_)
  · exact (by revert c_195; decide : False).elim
  refine lv_iload hx hb dX12_feed_30 (lv_at hl 0 rfl) ?_
  refine lv_iconst (v := 4) hx hb dX12_feed_32 (by decide) ?_
  refine lv_icmp_ge (tgt := 40) hx hb dX12_feed_33 (by decide) (fun c_196 => ?_) (fun c_196 => ?_)
  rotate_left
  · exact (by revert c_196; decide : False).elim
  refine lv_iload hx hb dX12_feed_40 (lv_at hl 0 rfl) ?_
  refine lv_bipush (v := 8) hx hb dX12_feed_42 (by decide) ?_
  refine lv_icmp_ge (tgt := 51) hx hb dX12_feed_44 (by decide) (fun c_197 => ?_) (fun c_197 => ?_)
  rotate_left
  · exact (by revert c_197; decide : False).elim
  refine lv_iload hx hb dX12_feed_51 (lv_at hl 0 rfl) ?_
  refine lv_bipush (v := 12) hx hb dX12_feed_53 (by decide) ?_
  refine lv_icmp_ge (tgt := 62) hx hb dX12_feed_55 (by decide) (fun c_198 => ?_) (fun c_198 => ?_)
  rotate_left
  · exact (by revert c_198; decide : False).elim
  refine lv_iload hx hb dX12_feed_62 (lv_at hl 0 rfl) ?_
  refine lv_bipush (v := 16) hx hb dX12_feed_64 (by decide) ?_
  refine lv_icmp_ge (tgt := 74) hx hb dX12_feed_66 (by decide) (fun c_199 => ?_) (fun c_199 => ?_)
  rotate_left
  · exact (by revert c_199; decide : False).elim
  refine lv_iload hx hb dX12_feed_74 (lv_at hl 7 rfl) ?_
  refine lv_istore (lv' := [(7, .int v5), (6, .int 18), (0, .ref h0), (1, .int v1), (2, .int v2), (3, .int v3), (4, .int v4), (5, .int v5)]) hx hb dX12_feed_76 hl (by decide) rfl (fun ls hl => ?_)
  refine lv_aload_n hx hb dX12_feed_78 rfl (lv_at hl 2 rfl) ?_
  refine va_get (D := (dC, dI)) (ci := 12) (v := .ref a38) (C := RX12) (T := TX12) (N := 65) hx hb hts im_feed_RX12 hown hK hP 0 rfl rfl 38 (by decide) (hts (.fieldLink RX12 101 "PutBackModel" "tape" "[B") (by decide +kernel)) (fun _ h9 => h9) rfl dX12_feed_79 ?_
  refine lv_aload_n hx hb dX12_feed_82 rfl (lv_at hl 2 rfl) ?_
  refine va_get (D := (dC, dI)) (ci := 12) (v := .int 18) (C := RX12) (T := TX12) (N := 65) hx hb hts im_feed_RX12 hown hK hP 0 rfl rfl 39 (by decide) (hts (.fieldLink RX12 318 "PutBackModel" "taped" "I") (by decide +kernel)) (fun _ h9 => h9) rfl dX12_feed_83 ?_
  refine lv_iload hx hb dX12_feed_86 (lv_at hl 0 rfl) ?_
  refine lv_bipush (v := 24) hx hb dX12_feed_88 (by decide) ?_
  refine lv_bipush (v := 8) hx hb dX12_feed_90 (by decide) ?_
  refine lv_iload hx hb dX12_feed_92 (lv_at hl 1 rfl) ?_
  refine lv_iconst (v := 4) hx hb dX12_feed_94 (by decide) ?_
  refine lv_irem hx hb dX12_feed_95 (by decide) ?_
  refine lv_topi (fun z_200 ez_200 => ?_)
  obtain rfl : z_200 = (2 : Int32) := ez_200.trans (by decide)
  refine lv_imul hx hb dX12_feed_96 ?_
  refine lv_topi (fun z_201 ez_201 => ?_)
  obtain rfl : z_201 = (16 : Int32) := ez_201.trans (by decide)
  refine lv_isub hx hb dX12_feed_97 ?_
  refine lv_topi (fun z_202 ez_202 => ?_)
  obtain rfl : z_202 = (8 : Int32) := ez_202.trans (by decide)
  refine lv_ishr hx hb dX12_feed_98 ?_
  refine lv_topi (fun z_203 ez_203 => ?_)
  refine lv_i2b hx hb dX12_feed_99 rfl ?_
  refine lv_topi (fun z_204 ez_204 => ?_)
  refine va_bast hx hb hK hP hD hS 1 0 rfl rfl (by unfold vp_in; decide) dX12_feed_100 (fun H locs hP hD hS => ?_)
  have hP : va_P (dC, dI) cls [(h0, .inr (12, [.int 0, .ref a1, .ref a2, .ref a3, .ref a4, .ref a5, .int 0, .ref a7, .ref a8, .int 0, .ref a10, .ref a11, .ref a12, .ref a13, .int 0, .ref a15, .ref a16, .ref a17, .ref a18, .ref a19, .ref a20, .ref a21, .ref a22, .int 0, .ref a24, .int 0, .ref a26, .ref a27, .int 0, .ref a29, .ref a30, .ref a31, .ref a32, .ref a33, .int 0, .ref a35, .ref a36, .int 0, .ref a38, .int 18, .int 0, .int 0, .int 0, .int 0, .long 0, .int 0, .int 0, .int (-1), .int (-1), .int 0, .ref a50, .ref a51, .int 0, .int 0, .ref a54, .ref a55, .int (-1), .ref a57, .ref a58, .ref a59, .ref a60, .int 0, .int 0, .int 0, .ref a64])), (a38, .inl (cB, 600, .inl (upd g_193 (18 : Int32).toNatClampNeg (vp_nar .byte z_204))))] H := hP
  have hD : va_D A [(h0, .inr (12, [.int 0, .ref a1, .ref a2, .ref a3, .ref a4, .ref a5, .int 0, .ref a7, .ref a8, .int 0, .ref a10, .ref a11, .ref a12, .ref a13, .int 0, .ref a15, .ref a16, .ref a17, .ref a18, .ref a19, .ref a20, .ref a21, .ref a22, .int 0, .ref a24, .int 0, .ref a26, .ref a27, .int 0, .ref a29, .ref a30, .ref a31, .ref a32, .ref a33, .int 0, .ref a35, .ref a36, .int 0, .ref a38, .int 18, .int 0, .int 0, .int 0, .int 0, .long 0, .int 0, .int 0, .int (-1), .int (-1), .int 0, .ref a50, .ref a51, .int 0, .int 0, .ref a54, .ref a55, .int (-1), .ref a57, .ref a58, .ref a59, .ref a60, .int 0, .int 0, .int 0, .ref a64])), (a38, .inl (cB, 600, .inl (upd g_193 (18 : Int32).toNatClampNeg (vp_nar .byte z_204))))] := hD
  generalize (upd g_193 (18 : Int32).toNatClampNeg (vp_nar .byte z_204)) = g_205 at hP hD
  refine lv_aload_n hx hb dX12_feed_101 rfl (lv_at hl 2 rfl) ?_
  refine lv_aload_n hx hb dX12_feed_102 rfl (lv_at hl 2 rfl) ?_
  refine va_get (D := (dC, dI)) (ci := 12) (v := .int 18) (C := RX12) (T := TX12) (N := 65) hx hb hts im_feed_RX12 hown hK hP 0 rfl rfl 39 (by decide) (hts (.fieldLink RX12 318 "PutBackModel" "taped" "I") (by decide +kernel)) (fun _ h9 => h9) rfl dX12_feed_103 ?_
  refine lv_iconst (v := 1) hx hb dX12_feed_106 (by decide) ?_
  refine lv_iadd hx hb dX12_feed_107 ?_
  refine lv_topi (fun z_206 ez_206 => ?_)
  obtain rfl : z_206 = (19 : Int32) := ez_206.trans (by decide)
  refine va_put (D := (dC, dI)) (ci := 12) (v := .int 19) (ty := .int) (C := RX12) (T := TX12) (N := 65) hx hb hts im_feed_RX12 tyX12 tyX12_ok nmX12 hown hK hP hD hS 0 rfl rfl 39 (by decide) (hts (.fieldLink RX12 318 "PutBackModel" "taped" "I") (by decide +kernel)) (fun _ h9 => h9) rfl (by decide +kernel) rfl rfl (Nat.le_of_ble_eq_true rfl) dX12_feed_108 (fun H locs hP hD hS => ?_)
  have hP : va_P (dC, dI) cls [(h0, .inr (12, [.int 0, .ref a1, .ref a2, .ref a3, .ref a4, .ref a5, .int 0, .ref a7, .ref a8, .int 0, .ref a10, .ref a11, .ref a12, .ref a13, .int 0, .ref a15, .ref a16, .ref a17, .ref a18, .ref a19, .ref a20, .ref a21, .ref a22, .int 0, .ref a24, .int 0, .ref a26, .ref a27, .int 0, .ref a29, .ref a30, .ref a31, .ref a32, .ref a33, .int 0, .ref a35, .ref a36, .int 0, .ref a38, .int 19, .int 0, .int 0, .int 0, .int 0, .long 0, .int 0, .int 0, .int (-1), .int (-1), .int 0, .ref a50, .ref a51, .int 0, .int 0, .ref a54, .ref a55, .int (-1), .ref a57, .ref a58, .ref a59, .ref a60, .int 0, .int 0, .int 0, .ref a64])), (a38, .inl (cB, 600, .inl g_205))] H := hP
  have hD : va_D A [(h0, .inr (12, [.int 0, .ref a1, .ref a2, .ref a3, .ref a4, .ref a5, .int 0, .ref a7, .ref a8, .int 0, .ref a10, .ref a11, .ref a12, .ref a13, .int 0, .ref a15, .ref a16, .ref a17, .ref a18, .ref a19, .ref a20, .ref a21, .ref a22, .int 0, .ref a24, .int 0, .ref a26, .ref a27, .int 0, .ref a29, .ref a30, .ref a31, .ref a32, .ref a33, .int 0, .ref a35, .ref a36, .int 0, .ref a38, .int 19, .int 0, .int 0, .int 0, .int 0, .long 0, .int 0, .int 0, .int (-1), .int (-1), .int 0, .ref a50, .ref a51, .int 0, .int 0, .ref a54, .ref a55, .int (-1), .ref a57, .ref a58, .ref a59, .ref a60, .int 0, .int 0, .int 0, .ref a64])), (a38, .inl (cB, 600, .inl g_205))] := hD
  refine lv_iinc (v := 19) (lv' := [(6, .int 19), (7, .int v5), (0, .ref h0), (1, .int v1), (2, .int v2), (3, .int v3), (4, .int v4), (5, .int v5)]) hx hb dX12_feed_111 hl (k := 1) rfl (by decide) (by decide) rfl (fun ls hl => ?_)
  refine lv_goto (tgt := 23) hx hb dX12_feed_114 (by decide) ?_
  refine lv_iload hx hb dX12_feed_23 (lv_at hl 0 rfl) ?_
  refine lv_bipush (v := 20) hx hb dX12_feed_25 (by decide) ?_
  refine lv_icmp_ge (tgt := 117) hx hb dX12_feed_27 (by decide) (fun c_207 => ?_) (fun c_207 => ?_)
  · exact (by revert c_207; decide : False).elim
  refine lv_iload hx hb dX12_feed_30 (lv_at hl 0 rfl) ?_
  refine lv_iconst (v := 4) hx hb dX12_feed_32 (by decide) ?_
  refine lv_icmp_ge (tgt := 40) hx hb dX12_feed_33 (by decide) (fun c_208 => ?_) (fun c_208 => ?_)
  rotate_left
  · exact (by revert c_208; decide : False).elim
  refine lv_iload hx hb dX12_feed_40 (lv_at hl 0 rfl) ?_
  refine lv_bipush (v := 8) hx hb dX12_feed_42 (by decide) ?_
  refine lv_icmp_ge (tgt := 51) hx hb dX12_feed_44 (by decide) (fun c_209 => ?_) (fun c_209 => ?_)
  rotate_left
  · exact (by revert c_209; decide : False).elim
  refine lv_iload hx hb dX12_feed_51 (lv_at hl 0 rfl) ?_
  refine lv_bipush (v := 12) hx hb dX12_feed_53 (by decide) ?_
  refine lv_icmp_ge (tgt := 62) hx hb dX12_feed_55 (by decide) (fun c_210 => ?_) (fun c_210 => ?_)
  rotate_left
  · exact (by revert c_210; decide : False).elim
  refine lv_iload hx hb dX12_feed_62 (lv_at hl 0 rfl) ?_
  refine lv_bipush (v := 16) hx hb dX12_feed_64 (by decide) ?_
  refine lv_icmp_ge (tgt := 74) hx hb dX12_feed_66 (by decide) (fun c_211 => ?_) (fun c_211 => ?_)
  rotate_left
  · exact (by revert c_211; decide : False).elim
  refine lv_iload hx hb dX12_feed_74 (lv_at hl 7 rfl) ?_
  refine lv_istore (lv' := [(7, .int v5), (6, .int 19), (0, .ref h0), (1, .int v1), (2, .int v2), (3, .int v3), (4, .int v4), (5, .int v5)]) hx hb dX12_feed_76 hl (by decide) rfl (fun ls hl => ?_)
  refine lv_aload_n hx hb dX12_feed_78 rfl (lv_at hl 2 rfl) ?_
  refine va_get (D := (dC, dI)) (ci := 12) (v := .ref a38) (C := RX12) (T := TX12) (N := 65) hx hb hts im_feed_RX12 hown hK hP 0 rfl rfl 38 (by decide) (hts (.fieldLink RX12 101 "PutBackModel" "tape" "[B") (by decide +kernel)) (fun _ h9 => h9) rfl dX12_feed_79 ?_
  refine lv_aload_n hx hb dX12_feed_82 rfl (lv_at hl 2 rfl) ?_
  refine va_get (D := (dC, dI)) (ci := 12) (v := .int 19) (C := RX12) (T := TX12) (N := 65) hx hb hts im_feed_RX12 hown hK hP 0 rfl rfl 39 (by decide) (hts (.fieldLink RX12 318 "PutBackModel" "taped" "I") (by decide +kernel)) (fun _ h9 => h9) rfl dX12_feed_83 ?_
  refine lv_iload hx hb dX12_feed_86 (lv_at hl 0 rfl) ?_
  refine lv_bipush (v := 24) hx hb dX12_feed_88 (by decide) ?_
  refine lv_bipush (v := 8) hx hb dX12_feed_90 (by decide) ?_
  refine lv_iload hx hb dX12_feed_92 (lv_at hl 1 rfl) ?_
  refine lv_iconst (v := 4) hx hb dX12_feed_94 (by decide) ?_
  refine lv_irem hx hb dX12_feed_95 (by decide) ?_
  refine lv_topi (fun z_212 ez_212 => ?_)
  obtain rfl : z_212 = (3 : Int32) := ez_212.trans (by decide)
  refine lv_imul hx hb dX12_feed_96 ?_
  refine lv_topi (fun z_213 ez_213 => ?_)
  obtain rfl : z_213 = (24 : Int32) := ez_213.trans (by decide)
  refine lv_isub hx hb dX12_feed_97 ?_
  refine lv_topi (fun z_214 ez_214 => ?_)
  obtain rfl : z_214 = (0 : Int32) := ez_214.trans (by decide)
  refine lv_ishr hx hb dX12_feed_98 ?_
  refine lv_topi (fun z_215 ez_215 => ?_)
  refine lv_i2b hx hb dX12_feed_99 rfl ?_
  refine lv_topi (fun z_216 ez_216 => ?_)
  refine va_bast hx hb hK hP hD hS 1 0 rfl rfl (by unfold vp_in; decide) dX12_feed_100 (fun H locs hP hD hS => ?_)
  have hP : va_P (dC, dI) cls [(h0, .inr (12, [.int 0, .ref a1, .ref a2, .ref a3, .ref a4, .ref a5, .int 0, .ref a7, .ref a8, .int 0, .ref a10, .ref a11, .ref a12, .ref a13, .int 0, .ref a15, .ref a16, .ref a17, .ref a18, .ref a19, .ref a20, .ref a21, .ref a22, .int 0, .ref a24, .int 0, .ref a26, .ref a27, .int 0, .ref a29, .ref a30, .ref a31, .ref a32, .ref a33, .int 0, .ref a35, .ref a36, .int 0, .ref a38, .int 19, .int 0, .int 0, .int 0, .int 0, .long 0, .int 0, .int 0, .int (-1), .int (-1), .int 0, .ref a50, .ref a51, .int 0, .int 0, .ref a54, .ref a55, .int (-1), .ref a57, .ref a58, .ref a59, .ref a60, .int 0, .int 0, .int 0, .ref a64])), (a38, .inl (cB, 600, .inl (upd g_205 (19 : Int32).toNatClampNeg (vp_nar .byte z_216))))] H := hP
  have hD : va_D A [(h0, .inr (12, [.int 0, .ref a1, .ref a2, .ref a3, .ref a4, .ref a5, .int 0, .ref a7, .ref a8, .int 0, .ref a10, .ref a11, .ref a12, .ref a13, .int 0, .ref a15, .ref a16, .ref a17, .ref a18, .ref a19, .ref a20, .ref a21, .ref a22, .int 0, .ref a24, .int 0, .ref a26, .ref a27, .int 0, .ref a29, .ref a30, .ref a31, .ref a32, .ref a33, .int 0, .ref a35, .ref a36, .int 0, .ref a38, .int 19, .int 0, .int 0, .int 0, .int 0, .long 0, .int 0, .int 0, .int (-1), .int (-1), .int 0, .ref a50, .ref a51, .int 0, .int 0, .ref a54, .ref a55, .int (-1), .ref a57, .ref a58, .ref a59, .ref a60, .int 0, .int 0, .int 0, .ref a64])), (a38, .inl (cB, 600, .inl (upd g_205 (19 : Int32).toNatClampNeg (vp_nar .byte z_216))))] := hD
  generalize (upd g_205 (19 : Int32).toNatClampNeg (vp_nar .byte z_216)) = g_217 at hP hD
  refine lv_aload_n hx hb dX12_feed_101 rfl (lv_at hl 2 rfl) ?_
  refine lv_aload_n hx hb dX12_feed_102 rfl (lv_at hl 2 rfl) ?_
  refine va_get (D := (dC, dI)) (ci := 12) (v := .int 19) (C := RX12) (T := TX12) (N := 65) hx hb hts im_feed_RX12 hown hK hP 0 rfl rfl 39 (by decide) (hts (.fieldLink RX12 318 "PutBackModel" "taped" "I") (by decide +kernel)) (fun _ h9 => h9) rfl dX12_feed_103 ?_
  refine lv_iconst (v := 1) hx hb dX12_feed_106 (by decide) ?_
  refine lv_iadd hx hb dX12_feed_107 ?_
  refine lv_topi (fun z_218 ez_218 => ?_)
  obtain rfl : z_218 = (20 : Int32) := ez_218.trans (by decide)
  refine va_put (D := (dC, dI)) (ci := 12) (v := .int 20) (ty := .int) (C := RX12) (T := TX12) (N := 65) hx hb hts im_feed_RX12 tyX12 tyX12_ok nmX12 hown hK hP hD hS 0 rfl rfl 39 (by decide) (hts (.fieldLink RX12 318 "PutBackModel" "taped" "I") (by decide +kernel)) (fun _ h9 => h9) rfl (by decide +kernel) rfl rfl (Nat.le_of_ble_eq_true rfl) dX12_feed_108 (fun H locs hP hD hS => ?_)
  have hP : va_P (dC, dI) cls [(h0, .inr (12, [.int 0, .ref a1, .ref a2, .ref a3, .ref a4, .ref a5, .int 0, .ref a7, .ref a8, .int 0, .ref a10, .ref a11, .ref a12, .ref a13, .int 0, .ref a15, .ref a16, .ref a17, .ref a18, .ref a19, .ref a20, .ref a21, .ref a22, .int 0, .ref a24, .int 0, .ref a26, .ref a27, .int 0, .ref a29, .ref a30, .ref a31, .ref a32, .ref a33, .int 0, .ref a35, .ref a36, .int 0, .ref a38, .int 20, .int 0, .int 0, .int 0, .int 0, .long 0, .int 0, .int 0, .int (-1), .int (-1), .int 0, .ref a50, .ref a51, .int 0, .int 0, .ref a54, .ref a55, .int (-1), .ref a57, .ref a58, .ref a59, .ref a60, .int 0, .int 0, .int 0, .ref a64])), (a38, .inl (cB, 600, .inl g_217))] H := hP
  have hD : va_D A [(h0, .inr (12, [.int 0, .ref a1, .ref a2, .ref a3, .ref a4, .ref a5, .int 0, .ref a7, .ref a8, .int 0, .ref a10, .ref a11, .ref a12, .ref a13, .int 0, .ref a15, .ref a16, .ref a17, .ref a18, .ref a19, .ref a20, .ref a21, .ref a22, .int 0, .ref a24, .int 0, .ref a26, .ref a27, .int 0, .ref a29, .ref a30, .ref a31, .ref a32, .ref a33, .int 0, .ref a35, .ref a36, .int 0, .ref a38, .int 20, .int 0, .int 0, .int 0, .int 0, .long 0, .int 0, .int 0, .int (-1), .int (-1), .int 0, .ref a50, .ref a51, .int 0, .int 0, .ref a54, .ref a55, .int (-1), .ref a57, .ref a58, .ref a59, .ref a60, .int 0, .int 0, .int 0, .ref a64])), (a38, .inl (cB, 600, .inl g_217))] := hD
  refine lv_iinc (v := 20) (lv' := [(6, .int 20), (7, .int v5), (0, .ref h0), (1, .int v1), (2, .int v2), (3, .int v3), (4, .int v4), (5, .int v5)]) hx hb dX12_feed_111 hl (k := 1) rfl (by decide) (by decide) rfl (fun ls hl => ?_)
  refine lv_goto (tgt := 23) hx hb dX12_feed_114 (by decide) ?_
  refine lv_iload hx hb dX12_feed_23 (lv_at hl 0 rfl) ?_
  refine lv_bipush (v := 20) hx hb dX12_feed_25 (by decide) ?_
  refine lv_icmp_ge (tgt := 117) hx hb dX12_feed_27 (by decide) (fun c_219 => ?_) (fun c_219 => ?_)
  rotate_left
  · exact (by revert c_219; decide : False).elim
  refine lv_aload_n hx hb dX12_feed_117 rfl (lv_at hl 2 rfl) ?_
  refine va_get (D := (dC, dI)) (ci := 12) (v := .int 20) (C := RX12) (T := TX12) (N := 65) hx hb hts im_feed_RX12 hown hK hP 0 rfl rfl 39 (by decide) (hts (.fieldLink RX12 318 "PutBackModel" "taped" "I") (by decide +kernel)) (fun _ h9 => h9) rfl dX12_feed_118 ?_
  have hK9 := hK.sub (tys' := [(cB, .byte)]) [0] rfl
  have hP9 := hP.sub (ws' := []) [] rfl
  have hD9 := hD.sub (ws' := []) [] (by decide) rfl
  exact W.iret (v := 20) hx hb hr (fun t ht hW => ⟨⟨20, (), rfl, rfl, by rw [ht]; exact hP9, va_K.moved hW.alike hK9, hD9⟩, hS.F ht⟩) hS.2.2 dX12_feed_121
