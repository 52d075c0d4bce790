def wn_isIn : List Cond := .code yX12_isIn cX12_isIn 7 (some .boolean) :: ([])
set_option maxHeartbeats 4000000 in
set_option maxRecDepth 100000 in
theorem n_isIn (l : Launch) (dC : Nat → ClassId) (dI : Nat → Nat → Nat) (sz : Nat) (h0 : Nat) (v1 : Int64) (v2 : Int64) (v3 : Int64) (ws : va_W) (tl : List (ClassId × FieldType))  : Met l yX12_isIn wn_isIn ({ frames := 0, cells := 0, slots := 0, locals := 0 } : Room) (va_Pc [.ref h0, .long v1, .long v2, .long v3] (fun U => U.heap.size = sz ∧ va_P (dC, dI) cls ws U.heap ∧ va_K (dC, dI) cls tl U ∧ va_D (fun _ => True) ws)) (va_Qi (fun (r : Int32) (_ : Unit) => (r = 1 ∧ (v2 ≤ v1 ∧ v1 ≤ v3)) ∨ (r = 0 ∧ ¬ (v2 ≤ v1 ∧ v1 ≤ v3))) (fun (_ : Unit) t => va_P (dC, dI) cls ws t.heap ∧ va_K (dC, dI) cls tl t ∧ va_D (va_A ws sz) ws) (va_A ws sz)) 0 0 (va_A ws sz) := by
  refine Met.ofW (cc := cX12_isIn) (maxL := 7) (ret := (some .boolean)) (by decide) rfl ?_
  intro p e s m args below meth c s₁ B hml hv
  obtain ⟨rfl, hsz, hP, hK, hD0⟩ := hv
  have hx := B.exec
  have hb := B.bytes
  have hr := B.returns
  have hts := atoms_spec (ws := wn_isIn) B.pre
  have hown : s.vm.findClass RX12 = some m.cls := findClass_of_methodNamed B.named
  have hlocks := B.notSynchronized
  subst hsz
  have hD := hD0.self (sz := s.heap.size)
  generalize hAe : va_A ws s.heap.size = A at hD ⊢
  have hA : ∀ q : Nat, s.heap.size ≤ q → A q := fun q h => by rw [← hAe]; exact Or.inr h
  have hP : va_P (dC, dI) cls ws s.heap := hP
  have hl := lv_entry ([.ref h0, .long v1, .long v2, .long v3]) (n := 7) (Nat.le_of_ble_eq_true rfl)
  rw [lg_entry_eq]
  generalize (lg_sl ([.ref h0, .long v1, .long v2, .long v3]) ++ List.replicate (7 - (lg_sl ([.ref h0, .long v1, .long v2, .long v3])).length) Slot.unset).toArray = ls at hl ⊢
  have hl : lv_has ls 7 [(0, .ref h0), (1, .long v1), (3, .long v2), (5, .long v3)] := hl
  obtain ⟨H, hH⟩ : ∃ H : Heap, s.heap = H := ⟨_, rfl⟩
  rw [hH] at hP ⊢
  have hS : va_S A s.heap H [] := by rw [← hH]; exact va_S.rf
  refine lv_lload_n hx hb dX12_isIn_0 rfl (lv_at hl 1 rfl) ?_
  refine lv_lload_n hx hb dX12_isIn_1 rfl (lv_at hl 2 rfl) ?_
  refine W.lcmp hx hb dX12_isIn_2 ?_
  refine lv_if_lt (tgt := 17) hx hb dX12_isIn_3 (by decide) (fun c_1 => ?_) (fun c_1 => ?_)
  · skip
    refine lv_iconst (v := 0) hx hb dX12_isIn_17 (by decide) ?_
    have hP9 := hP
    have hD9 := hD
    have hK9 := hK
    exact W.zret (v := 0) (ty := .boolean) hx hb hr rfl (fun t ht hW => ⟨⟨0, (), rfl, Or.inr ⟨rfl, zIn2 c_1⟩, by rw [ht]; exact hP9, va_K.moved hW.alike hK9, hD9⟩, hS.F ht⟩) hS.2.2 dX12_isIn_18
  · skip
    refine lv_lload_n hx hb dX12_isIn_6 rfl (lv_at hl 1 rfl) ?_
    refine lv_lload hx hb dX12_isIn_7 (lv_at hl 3 rfl) ?_
    refine W.lcmp hx hb dX12_isIn_9 ?_
    refine lv_if_gt (tgt := 17) hx hb dX12_isIn_10 (by decide) (fun c_2 => ?_) (fun c_2 => ?_)
    · skip
      refine lv_iconst (v := 0) hx hb dX12_isIn_17 (by decide) ?_
      have hP9 := hP
      have hD9 := hD
      have hK9 := hK
      exact W.zret (v := 0) (ty := .boolean) hx hb hr rfl (fun t ht hW => ⟨⟨0, (), rfl, Or.inr ⟨rfl, zIn3 c_2⟩, by rw [ht]; exact hP9, va_K.moved hW.alike hK9, hD9⟩, hS.F ht⟩) hS.2.2 dX12_isIn_18
    · skip
      refine lv_iconst (v := 1) hx hb dX12_isIn_13 (by decide) ?_
      refine lv_goto (tgt := 18) hx hb dX12_isIn_14 (by decide) ?_
      have hP9 := hP
      have hD9 := hD
      have hK9 := hK
      exact W.zret (v := 1) (ty := .boolean) hx hb hr rfl (fun t ht hW => ⟨⟨1, (), rfl, Or.inl ⟨rfl, zIn1 c_1 c_2⟩, by rw [ht]; exact hP9, va_K.moved hW.alike hK9, hD9⟩, hS.F ht⟩) hS.2.2 dX12_isIn_18
def wn_isSlot : List Cond := .code yX12_isSlot cX12_isSlot 2 (some .boolean) :: ([.constantLong RX12 512 (7), .methodLink RX12 153 yX12_isIn, .instanceMethod yX12_isIn, .selects RX12 yX12_isIn yX12_isIn, .initialized RX12, .code yX12_isIn cX12_isIn 7 (some .boolean)])
theorem gn_isSlot_153g : GoodIn wn_isSlot wn_isIn := goodIn_r _ [6] (by decide +kernel) (by decide +kernel)
theorem gn_isSlot_153 : GoodIn wn_isSlot (wsV RX12 153 RX12 yX12_isIn wn_isIn) := goodIn_app (goodIn_of _ (by decide +kernel)) gn_isSlot_153g
set_option maxHeartbeats 4000000 in
set_option maxRecDepth 100000 in
theorem n_isSlot (l : Launch) (dC : Nat → ClassId) (dI : Nat → Nat → Nat) (sz : Nat) (h0 : Nat) (v1 : Int32) (fs : List Value) (ws : va_W) (tl : List (ClassId × FieldType)) (k0 : Nat) (he0 : ws[k0]? = some (h0, .inr (12, fs)))  : Met l yX12_isSlot wn_isSlot ({ frames := 1, cells := 0, slots := 0, locals := 26 } : Room) (va_Pc [.ref h0, .int v1] (fun U => U.heap.size = sz ∧ va_P (dC, dI) cls ws U.heap ∧ va_K (dC, dI) cls tl U ∧ va_D (fun _ => True) ws)) (va_Qi (fun (r : Int32) (_ : Unit) => (r = 1 ∧ inS v1) ∨ (r = 0 ∧ ¬ inS v1)) (fun (_ : Unit) t => va_P (dC, dI) cls ws t.heap ∧ va_K (dC, dI) cls tl t ∧ va_D (va_A ws sz) ws) (va_A ws sz)) 0 0 (va_A ws sz) := by
  refine Met.ofW (cc := cX12_isSlot) (maxL := 2) (ret := (some .boolean)) (by decide) rfl ?_
  intro p e s m args below meth c s₁ B hml hv
  obtain ⟨rfl, hsz, hP, hK, hD0⟩ := hv
  have hx := B.exec
  have hb := B.bytes
  have hr := B.returns
  have hts := atoms_spec (ws := wn_isSlot) B.pre
  have hown : s.vm.findClass RX12 = some m.cls := findClass_of_methodNamed B.named
  have hlocks := B.notSynchronized
  subst hsz
  have hD := hD0.self (sz := s.heap.size)
  generalize hAe : va_A ws s.heap.size = A at hD ⊢
  have hA : ∀ q : Nat, s.heap.size ≤ q → A q := fun q h => by rw [← hAe]; exact Or.inr h
  have hP : va_P (dC, dI) cls ws s.heap := hP
  have hl := lv_entry ([.ref h0, .int v1]) (n := 2) (Nat.le_of_ble_eq_true rfl)
  rw [lg_entry_eq]
  generalize (lg_sl ([.ref h0, .int v1]) ++ List.replicate (2 - (lg_sl ([.ref h0, .int v1])).length) Slot.unset).toArray = ls at hl ⊢
  have hl : lv_has ls 2 [(0, .ref h0), (1, .int v1)] := hl
  obtain ⟨H, hH⟩ : ∃ H : Heap, s.heap = H := ⟨_, rfl⟩
  rw [hH] at hP ⊢
  have hS : va_S A s.heap H [] := by rw [← hH]; exact va_S.rf
  refine lv_aload_n hx hb dX12_isSlot_0 rfl (lv_at hl 0 rfl) ?_
  refine lv_iload_n hx hb dX12_isSlot_1 rfl (lv_at hl 1 rfl) ?_
  refine lv_i2l (v := v1.toInt64) hx hb dX12_isSlot_2 rfl ?_
  refine lv_lconst (v := 0) hx hb dX12_isSlot_3 (by decide) ?_
  refine lv_ldc2 hx hb hown (hts (.constantLong RX12 512 (7)) (by decide +kernel)) dX12_isSlot_4 ?_
  have hFc := zFree hD hS hA
  refine va_calli (va_runV (As := [.long v1.toInt64, .long 0, .long 7]) (rest := []) ⟨hx, hb, hml, hown, hts⟩ (n_isIn l dC dI H.size h0 v1.toInt64 0 7 ws tl) (cwV 3 hts gn_isSlot_153 rfl rfl rfl (by decide +kernel) ⟨Nat.le_of_ble_eq_true rfl, Nat.le_of_ble_eq_true rfl⟩) ⟨fun a U g mk q => by obtain ⟨q0, q1, qP, qK, qD⟩ := q; exact ⟨q0, q1, qP, va_K.moved (u := U) (U := U.calling g mk a) (Vm.Alike.refl U.vm) qK, qD⟩, va_recv hK hP (ci := 12) (q0 := k0) rfl he0, fun U hU hW => ⟨rfl, by rw [hU], by rw [hU]; exact hP, va_K.moved hW.alike hK, hD.weaken (fun _ _ _ _ => trivial)⟩⟩ rfl rfl hl.1 rfl (lv_room (Nat.le_of_ble_eq_true rfl)) dX12_isSlot_7 ⟨Nat.le_of_ble_eq_true rfl, Nat.le_of_ble_eq_true rfl⟩) hS (fun q _ h => hFc q h) hFc (fun r_1 u t H1 locs ht hvm hw hB hz1 hk1 hS => ?_)
  obtain ⟨hP, hK1, hD1⟩ := hB
  rw [ht] at hP
  try dsimp only at hw
  clear hk1 hz1 hFc hD1 hK1
  generalize H1 = H at hP hS ⊢
  rcases hw with ⟨rfl, f_2⟩ | ⟨rfl, f_2⟩
  · skip
    have hP9 := hP
    have hD9 := hD
    have hK9 := hK
    exact W.zret (v := 1) (ty := .boolean) hx hb hr rfl (fun t ht hW => ⟨⟨1, (), rfl, Or.inl ⟨rfl, zS1 f_2⟩, by rw [ht]; exact hP9, va_K.moved hW.alike hK9, hD9⟩, hS.F ht⟩) hS.2.2 dX12_isSlot_10
  · skip
    have hP9 := hP
    have hD9 := hD
    have hK9 := hK
    exact W.zret (v := 0) (ty := .boolean) hx hb hr rfl (fun t ht hW => ⟨⟨0, (), rfl, Or.inr ⟨rfl, zS2 f_2⟩, by rw [ht]; exact hP9, va_K.moved hW.alike hK9, hD9⟩, hS.F ht⟩) hS.2.2 dX12_isSlot_10
def wn_clearsHeap : List Cond := .code yX12_clearsHeap cX12_clearsHeap 1 none :: ([.fieldLink RX12 222 "PutBackModel" "top" "I", .fieldLink RX12 291 "PutBackModel" "partsTop" "I", .fieldLink RX12 306 "PutBackModel" "outsTop" "I"] ++ wsX120)
theorem in_clearsHeap_RX12 : ∀ w ∈ u_ws RX12 TX12 65, w ∈ wn_clearsHeap := fun w h => List.mem_cons_of_mem _ (List.mem_append_right _ h)
set_option maxHeartbeats 4000000 in
set_option maxRecDepth 100000 in
theorem n_clearsHeap (l : Launch) (dC : Nat → ClassId) (dI : Nat → Nat → Nat) (sz : Nat) (h0 : Nat) (a1 : Nat) (a2 : Nat) (a3 : Nat) (a4 : Nat) (a5 : Nat) (a7 : Nat) (a8 : Nat) (a10 : Nat) (a11 : Nat) (a12 : Nat) (a13 : Nat) (a15 : Nat) (a16 : Nat) (a17 : Nat) (a18 : Nat) (a19 : Nat) (a20 : Nat) (a21 : Nat) (a22 : Nat) (a24 : Nat) (a26 : Nat) (a27 : Nat) (a29 : Nat) (a30 : Nat) (a31 : Nat) (a32 : Nat) (a33 : Nat) (a35 : Nat) (a36 : Nat) (a38 : Nat) (a50 : Nat) (a51 : Nat) (a54 : Nat) (a55 : Nat) (a57 : Nat) (a58 : Nat) (a59 : Nat) (a60 : Nat) (a64 : Nat) (ws : va_W) (tl : List (ClassId × FieldType)) (k0 : Nat) (he0 : ws[k0]? = some (h0, .inr (12, [.int 0, .ref a1, .ref a2, .ref a3, .ref a4, .ref a5, .int 0, .ref a7, .ref a8, .int 0, .ref a10, .ref a11, .ref a12, .ref a13, .int 0, .ref a15, .ref a16, .ref a17, .ref a18, .ref a19, .ref a20, .ref a21, .ref a22, .int 0, .ref a24, .int 0, .ref a26, .ref a27, .int 0, .ref a29, .ref a30, .ref a31, .ref a32, .ref a33, .int 0, .ref a35, .ref a36, .int 0, .ref a38, .int 0, .int 0, .int 0, .int 0, .int 0, .long 0, .int 0, .int 0, .int (-1), .int (-1), .int 0, .ref a50, .ref a51, .int 0, .int 0, .ref a54, .ref a55, .int (-1), .ref a57, .ref a58, .ref a59, .ref a60, .int 0, .int 0, .int 0, .ref a64])))  : Met l yX12_clearsHeap wn_clearsHeap ({ frames := 0, cells := 0, slots := 0, locals := 0 } : Room) (va_Pc [.ref h0] (fun U => U.heap.size = sz ∧ va_P (dC, dI) cls ws U.heap ∧ va_K (dC, dI) cls tl U ∧ va_D (fun _ => True) ws)) (va_Qv (fun _ : Unit => True) (fun (_ : Unit) t => va_P (dC, dI) cls ws t.heap ∧ va_K (dC, dI) cls tl t ∧ va_D (va_A ws sz) ws) (va_A ws sz)) 0 0 (va_A ws sz) := by
  refine Met.ofW (cc := cX12_clearsHeap) (maxL := 1) (ret := none) (by decide) rfl ?_
  intro p e s m args below meth c s₁ B hml hv
  obtain ⟨rfl, hsz, hP, hK, hD0⟩ := hv
  have hx := B.exec
  have hb := B.bytes
  have hr := B.returns
  have hts := atoms_spec (ws := wn_clearsHeap) B.pre
  have hown : s.vm.findClass RX12 = some m.cls := findClass_of_methodNamed B.named
  have hlocks := B.notSynchronized
  subst hsz
  have hD := hD0.self (sz := s.heap.size)
  generalize hAe : va_A ws s.heap.size = A at hD ⊢
  have hA : ∀ q : Nat, s.heap.size ≤ q → A q := fun q h => by rw [← hAe]; exact Or.inr h
  have hP : va_P (dC, dI) cls ws s.heap := hP
  have hl := lv_entry ([.ref h0]) (n := 1) (Nat.le_of_ble_eq_true rfl)
  rw [lg_entry_eq]
  generalize (lg_sl ([.ref h0]) ++ List.replicate (1 - (lg_sl ([.ref h0])).length) Slot.unset).toArray = ls at hl ⊢
  have hl : lv_has ls 1 [(0, .ref h0)] := hl
  obtain ⟨H, hH⟩ : ∃ H : Heap, s.heap = H := ⟨_, rfl⟩
  rw [hH] at hP ⊢
  have hS : va_S A s.heap H [] := by rw [← hH]; exact va_S.rf
  refine lv_aload_n hx hb dX12_clearsHeap_0 rfl (lv_at hl 0 rfl) ?_
  refine lv_iconst (v := 0) hx hb dX12_clearsHeap_1 (by decide) ?_
  refine va_put (D := (dC, dI)) (ci := 12) (v := .int 0) (ty := .int) (C := RX12) (T := TX12) (N := 65) hx hb hts in_clearsHeap_RX12 tyX12 tyX12_ok nmX12 hown hK hP hD hS k0 he0 rfl 14 (by decide) (hts (.fieldLink RX12 222 "PutBackModel" "top" "I") (by decide +kernel)) (fun _ h9 => h9) rfl (by decide +kernel) rfl rfl (Nat.le_of_ble_eq_true rfl) dX12_clearsHeap_2 (fun H locs hP _ hS => ?_)
  have hP : va_P (dC, dI) cls ws H := by rw [← zSame he0]; exact hP
  refine lv_aload_n hx hb dX12_clearsHeap_5 rfl (lv_at hl 0 rfl) ?_
  refine lv_iconst (v := 0) hx hb dX12_clearsHeap_6 (by decide) ?_
  refine va_put (D := (dC, dI)) (ci := 12) (v := .int 0) (ty := .int) (C := RX12) (T := TX12) (N := 65) hx hb hts in_clearsHeap_RX12 tyX12 tyX12_ok nmX12 hown hK hP hD hS k0 he0 rfl 34 (by decide) (hts (.fieldLink RX12 291 "PutBackModel" "partsTop" "I") (by decide +kernel)) (fun _ h9 => h9) rfl (by decide +kernel) rfl rfl (Nat.le_of_ble_eq_true rfl) dX12_clearsHeap_7 (fun H locs hP _ hS => ?_)
  have hP : va_P (dC, dI) cls ws H := by rw [← zSame he0]; exact hP
  refine lv_aload_n hx hb dX12_clearsHeap_10 rfl (lv_at hl 0 rfl) ?_
  refine lv_iconst (v := 0) hx hb dX12_clearsHeap_11 (by decide) ?_
  refine va_put (D := (dC, dI)) (ci := 12) (v := .int 0) (ty := .int) (C := RX12) (T := TX12) (N := 65) hx hb hts in_clearsHeap_RX12 tyX12 tyX12_ok nmX12 hown hK hP hD hS k0 he0 rfl 37 (by decide) (hts (.fieldLink RX12 306 "PutBackModel" "outsTop" "I") (by decide +kernel)) (fun _ h9 => h9) rfl (by decide +kernel) rfl rfl (Nat.le_of_ble_eq_true rfl) dX12_clearsHeap_12 (fun H locs hP _ hS => ?_)
  have hP : va_P (dC, dI) cls ws H := by rw [← zSame he0]; exact hP
  have hP9 := hP
  have hD9 := hD
  have hK9 := hK
  exact W.vret hx hb hr (fun t ht hW => ⟨⟨(), rfl, trivial, by rw [ht]; exact hP9, va_K.moved hW.alike hK9, hD9⟩, hS.F ht⟩) hS.2.2 dX12_clearsHeap_15
def wn_lays : List Cond := .code yX12_lays cX12_lays 4 (some .int) :: ([.fieldLink RX12 222 "PutBackModel" "top" "I", .fieldLink RX12 115 "PutBackModel" "slotLong" "[I"] ++ wsX120)
theorem in_lays_RX12 : ∀ w ∈ u_ws RX12 TX12 65, w ∈ wn_lays := fun w h => List.mem_cons_of_mem _ (List.mem_append_right _ h)
set_option maxHeartbeats 4000000 in
set_option maxRecDepth 100000 in
theorem n_lays (l : Launch) (dC : Nat → ClassId) (dI : Nat → Nat → Nat) (sz : Nat) (h0 : Nat) (v1 : Int32) (a1 : Nat) (a2 : Nat) (a3 : Nat) (a4 : Nat) (a5 : Nat) (a7 : Nat) (a8 : Nat) (a10 : Nat) (a11 : Nat) (a12 : Nat) (a13 : Nat) (a15 : Nat) (a16 : Nat) (a17 : Nat) (a18 : Nat) (a19 : Nat) (a20 : Nat) (a21 : Nat) (a22 : Nat) (a24 : Nat) (a26 : Nat) (a27 : Nat) (a29 : Nat) (a30 : Nat) (a31 : Nat) (a32 : Nat) (a33 : Nat) (a35 : Nat) (a36 : Nat) (a38 : Nat) (a50 : Nat) (a51 : Nat) (a54 : Nat) (a55 : Nat) (a57 : Nat) (a58 : Nat) (a59 : Nat) (a60 : Nat) (a64 : Nat) (cI : ClassId)  (ws : va_W) (tl : List (ClassId × FieldType)) (k0 : Nat) (he0 : ws[k0]? = some (h0, .inr (12, [.int 0, .ref a1, .ref a2, .ref a3, .ref a4, .ref a5, .int 0, .ref a7, .ref a8, .int 0, .ref a10, .ref a11, .ref a12, .ref a13, .int 0, .ref a15, .ref a16, .ref a17, .ref a18, .ref a19, .ref a20, .ref a21, .ref a22, .int 0, .ref a24, .int 0, .ref a26, .ref a27, .int 0, .ref a29, .ref a30, .ref a31, .ref a32, .ref a33, .int 0, .ref a35, .ref a36, .int 0, .ref a38, .int 0, .int 0, .int 0, .int 0, .int 0, .long 0, .int 0, .int 0, .int (-1), .int (-1), .int 0, .ref a50, .ref a51, .int 0, .int 0, .ref a54, .ref a55, .int (-1), .ref a57, .ref a58, .ref a59, .ref a60, .int 0, .int 0, .int 0, .ref a64]))) (k1 : Nat) (he1 : ws[k1]? = some (a51, .inl (cI, 8, .inl (fun _ => 0)))) (t0 : Nat) (ht0 : tl[t0]? = some (cI, .int)) (q1 : inS v1) : Met l yX12_lays wn_lays ({ frames := 0, cells := 0, slots := 0, locals := 0 } : Room) (va_Pc [.ref h0, .int v1] (fun U => U.heap.size = sz ∧ va_P (dC, dI) cls ws U.heap ∧ va_K (dC, dI) cls tl U ∧ va_D (fun _ => True) ws)) (va_Qi (fun (r : Int32) (_ : Unit) => r = 0) (fun (_ : Unit) t => va_P (dC, dI) cls ws t.heap ∧ va_K (dC, dI) cls tl t ∧ va_D (va_A ws sz) ws) (va_A ws sz)) 0 0 (va_A ws sz) := by
  refine Met.ofW (cc := cX12_lays) (maxL := 4) (ret := (some .int)) (by decide) rfl ?_
  intro p e s m args below meth c s₁ B hml hv
  obtain ⟨rfl, hsz, hP, hK, hD0⟩ := hv
  have hx := B.exec
  have hb := B.bytes
  have hr := B.returns
  have hts := atoms_spec (ws := wn_lays) B.pre
  have hown : s.vm.findClass RX12 = some m.cls := findClass_of_methodNamed B.named
  have hlocks := B.notSynchronized
  subst hsz
  have hD := hD0.self (sz := s.heap.size)
  generalize hAe : va_A ws s.heap.size = A at hD ⊢
  have hA : ∀ q : Nat, s.heap.size ≤ q → A q := fun q h => by rw [← hAe]; exact Or.inr h
  have hP : va_P (dC, dI) cls ws s.heap := hP
  have hl := lv_entry ([.ref h0, .int v1]) (n := 4) (Nat.le_of_ble_eq_true rfl)
  rw [lg_entry_eq]
  generalize (lg_sl ([.ref h0, .int v1]) ++ List.replicate (4 - (lg_sl ([.ref h0, .int v1])).length) Slot.unset).toArray = ls at hl ⊢
  have hl : lv_has ls 4 [(0, .ref h0), (1, .int v1)] := hl
  obtain ⟨H, hH⟩ : ∃ H : Heap, s.heap = H := ⟨_, rfl⟩
  rw [hH] at hP ⊢
  have hS : va_S A s.heap H [] := by rw [← hH]; exact va_S.rf
  refine lv_aload_n hx hb dX12_lays_0 rfl (lv_at hl 0 rfl) ?_
  refine va_get (D := (dC, dI)) (ci := 12) (v := .int 0) (C := RX12) (T := TX12) (N := 65) hx hb hts in_lays_RX12 hown hK hP k0 he0 rfl 14 (by decide) (hts (.fieldLink RX12 222 "PutBackModel" "top" "I") (by decide +kernel)) (fun _ h9 => h9) rfl dX12_lays_1 ?_
  refine lv_istore_n (lv' := [(2, .int 0), (0, .ref h0), (1, .int v1)]) hx hb dX12_lays_4 rfl hl (by decide) rfl (fun ls hl => ?_)
  refine lv_iconst (v := 0) hx hb dX12_lays_5 (by decide) ?_
  refine lv_istore_n (lv' := [(3, .int 0), (2, .int 0), (0, .ref h0), (1, .int v1)]) hx hb dX12_lays_6 rfl hl (by decide) rfl (fun ls hl => ?_)
  refine lv_iload_n hx hb dX12_lays_7 rfl (lv_at hl 0 rfl) ?_
  refine lv_aload_n hx hb dX12_lays_8 rfl (lv_at hl 2 rfl) ?_
  refine va_get (D := (dC, dI)) (ci := 12) (v := .ref a51) (C := RX12) (T := TX12) (N := 65) hx hb hts in_lays_RX12 hown hK hP k0 he0 rfl 51 (by decide) (hts (.fieldLink RX12 115 "PutBackModel" "slotLong" "[I") (by decide +kernel)) (fun _ h9 => h9) rfl dX12_lays_9 ?_
  refine lv_iload_n hx hb dX12_lays_12 rfl (lv_at hl 3 rfl) ?_
  refine va_iald hx hb hK hP k1 t0 he1 ht0 (zVp q1) dX12_lays_13 ?_
  refine lv_topi (fun z_1 ez_1 => ?_)
  obtain rfl : z_1 = (0 : Int32) := ez_1
  refine lv_icmp_ge (tgt := 38) hx hb dX12_lays_14 (by decide) (fun c_2 => ?_) (fun c_2 => ?_)
  rotate_left
  · exact (by revert c_2; decide : False).elim
  refine lv_iload_n hx hb dX12_lays_38 rfl (lv_at hl 1 rfl) ?_
  have hP9 := hP
  have hD9 := hD
  have hK9 := hK
  exact W.iret (v := 0) hx hb hr (fun t ht hW => ⟨⟨0, (), rfl, rfl, by rw [ht]; exact hP9, va_K.moved hW.alike hK9, hD9⟩, hS.F ht⟩) hS.2.2 dX12_lays_39
def wn_takes : List Cond := .code yX12_takes cX12_takes 5 (some .int) :: ([.fieldLink RX12 222 "PutBackModel" "top" "I", .fieldLink RX12 115 "PutBackModel" "slotLong" "[I"] ++ wsX120)
theorem in_takes_RX12 : ∀ w ∈ u_ws RX12 TX12 65, w ∈ wn_takes := fun w h => List.mem_cons_of_mem _ (List.mem_append_right _ h)
set_option maxHeartbeats 4000000 in
set_option maxRecDepth 100000 in
theorem n_takes (l : Launch) (dC : Nat → ClassId) (dI : Nat → Nat → Nat) (sz : Nat) (h0 : Nat) (v2 : Int32) (a1 : Nat) (a2 : Nat) (a3 : Nat) (a4 : Nat) (a5 : Nat) (a7 : Nat) (a8 : Nat) (a10 : Nat) (a11 : Nat) (a12 : Nat) (a13 : Nat) (a15 : Nat) (a16 : Nat) (a17 : Nat) (a18 : Nat) (a19 : Nat) (a20 : Nat) (a21 : Nat) (a22 : Nat) (a24 : Nat) (a26 : Nat) (a27 : Nat) (a29 : Nat) (a30 : Nat) (a31 : Nat) (a32 : Nat) (a33 : Nat) (a35 : Nat) (a36 : Nat) (a38 : Nat) (a50 : Nat) (a51 : Nat) (a54 : Nat) (a55 : Nat) (a57 : Nat) (a58 : Nat) (a59 : Nat) (a60 : Nat) (a64 : Nat) (cI : ClassId)  (ws : va_W) (tl : List (ClassId × FieldType)) (k0 : Nat) (he0 : ws[k0]? = some (h0, .inr (12, [.int 0, .ref a1, .ref a2, .ref a3, .ref a4, .ref a5, .int 0, .ref a7, .ref a8, .int 0, .ref a10, .ref a11, .ref a12, .ref a13, .int 0, .ref a15, .ref a16, .ref a17, .ref a18, .ref a19, .ref a20, .ref a21, .ref a22, .int 0, .ref a24, .int 0, .ref a26, .ref a27, .int 0, .ref a29, .ref a30, .ref a31, .ref a32, .ref a33, .int 0, .ref a35, .ref a36, .int 0, .ref a38, .int 0, .int 0, .int 0, .int 0, .int 0, .long 0, .int 0, .int 0, .int (-1), .int (-1), .int 0, .ref a50, .ref a51, .int 0, .int 0, .ref a54, .ref a55, .int (-1), .ref a57, .ref a58, .ref a59, .ref a60, .int 0, .int 0, .int 0, .ref a64]))) (k1 : Nat) (he1 : ws[k1]? = some (a51, .inl (cI, 8, .inl (fun _ => 0)))) (t0 : Nat) (ht0 : tl[t0]? = some (cI, .int)) (q1 : inS v2) : Met l yX12_takes wn_takes ({ frames := 0, cells := 0, slots := 0, locals := 0 } : Room) (va_Pc [.ref h0, .int 0, .int v2] (fun U => U.heap.size = sz ∧ va_P (dC, dI) cls ws U.heap ∧ va_K (dC, dI) cls tl U ∧ va_D (fun _ => True) ws)) (va_Qi (fun (r : Int32) (_ : Unit) => r = 0) (fun (_ : Unit) t => va_P (dC, dI) cls ws t.heap ∧ va_K (dC, dI) cls tl t ∧ va_D (va_A ws sz) ws) (va_A ws sz)) 0 0 (va_A ws sz) := by
  refine Met.ofW (cc := cX12_takes) (maxL := 5) (ret := (some .int)) (by decide) rfl ?_
  intro p e s m args below meth c s₁ B hml hv
  obtain ⟨rfl, hsz, hP, hK, hD0⟩ := hv
  have hx := B.exec
  have hb := B.bytes
  have hr := B.returns
  have hts := atoms_spec (ws := wn_takes) B.pre
  have hown : s.vm.findClass RX12 = some m.cls := findClass_of_methodNamed B.named
  have hlocks := B.notSynchronized
  subst hsz
  have hD := hD0.self (sz := s.heap.size)
  generalize hAe : va_A ws s.heap.size = A at hD ⊢
  have hA : ∀ q : Nat, s.heap.size ≤ q → A q := fun q h => by rw [← hAe]; exact Or.inr h
  have hP : va_P (dC, dI) cls ws s.heap := hP
  have hl := lv_entry ([.ref h0, .int 0, .int v2]) (n := 5) (Nat.le_of_ble_eq_true rfl)
  rw [lg_entry_eq]
  generalize (lg_sl ([.ref h0, .int 0, .int v2]) ++ List.replicate (5 - (lg_sl ([.ref h0, .int 0, .int v2])).length) Slot.unset).toArray = ls at hl ⊢
  have hl : lv_has ls 5 [(0, .ref h0), (1, .int 0), (2, .int v2)] := hl
  obtain ⟨H, hH⟩ : ∃ H : Heap, s.heap = H := ⟨_, rfl⟩
  rw [hH] at hP ⊢
  have hS : va_S A s.heap H [] := by rw [← hH]; exact va_S.rf
  refine lv_aload_n hx hb dX12_takes_0 rfl (lv_at hl 0 rfl) ?_
  refine va_get (D := (dC, dI)) (ci := 12) (v := .int 0) (C := RX12) (T := TX12) (N := 65) hx hb hts in_takes_RX12 hown hK hP k0 he0 rfl 14 (by decide) (hts (.fieldLink RX12 222 "PutBackModel" "top" "I") (by decide +kernel)) (fun _ h9 => h9) rfl dX12_takes_1 ?_
  refine lv_iload_n hx hb dX12_takes_4 rfl (lv_at hl 1 rfl) ?_
  refine lv_isub hx hb dX12_takes_5 ?_
  refine lv_topi (fun z_1 ez_1 => ?_)
  obtain rfl : z_1 = (0 : Int32) := ez_1.trans (by decide)
  refine lv_istore_n (lv' := [(3, .int 0), (0, .ref h0), (1, .int 0), (2, .int v2)]) hx hb dX12_takes_6 rfl hl (by decide) rfl (fun ls hl => ?_)
  refine lv_iload_n hx hb dX12_takes_7 rfl (lv_at hl 0 rfl) ?_
  refine lv_bipush (v := 60) hx hb dX12_takes_8 (by decide) ?_
  refine lv_icmp_le (tgt := 15) hx hb dX12_takes_10 (by decide) (fun c_2 => ?_) (fun c_2 => ?_)
  rotate_left
  · exact (by revert c_2; decide : False).elim
  refine lv_iconst (v := 0) hx hb dX12_takes_15 (by decide) ?_
  refine lv_istore (lv' := [(4, .int 0), (3, .int 0), (0, .ref h0), (1, .int 0), (2, .int v2)]) hx hb dX12_takes_16 hl (by decide) rfl (fun ls hl => ?_)
  refine lv_iload hx hb dX12_takes_18 (lv_at hl 0 rfl) ?_
  refine lv_iload_n hx hb dX12_takes_20 rfl (lv_at hl 1 rfl) ?_
  refine lv_icmp_ge (tgt := 51) hx hb dX12_takes_21 (by decide) (fun c_3 => ?_) (fun c_3 => ?_)
  rotate_left
  · exact (by revert c_3; decide : False).elim
  refine lv_aload_n hx hb dX12_takes_51 rfl (lv_at hl 2 rfl) ?_
  refine va_get (D := (dC, dI)) (ci := 12) (v := .ref a51) (C := RX12) (T := TX12) (N := 65) hx hb hts in_takes_RX12 hown hK hP k0 he0 rfl 51 (by decide) (hts (.fieldLink RX12 115 "PutBackModel" "slotLong" "[I") (by decide +kernel)) (fun _ h9 => h9) rfl dX12_takes_52 ?_
  refine lv_iload_n hx hb dX12_takes_55 rfl (lv_at hl 4 rfl) ?_
  refine lv_iload_n hx hb dX12_takes_56 rfl (lv_at hl 1 rfl) ?_
  refine va_iast hx hb hK hP hD hS k1 t0 he1 ht0 (zVp q1) dX12_takes_57 (fun H locs hP _ hS => ?_)
  have hP : va_P (dC, dI) cls ws H := by rw [← zSame he1]; rw [zUpd] at hP; exact hP
  refine lv_iload_n hx hb dX12_takes_58 rfl (lv_at hl 1 rfl) ?_
  have hP9 := hP
  have hD9 := hD
  have hK9 := hK
  exact W.iret (v := 0) hx hb hr (fun t ht hW => ⟨⟨0, (), rfl, rfl, by rw [ht]; exact hP9, va_K.moved hW.alike hK9, hD9⟩, hS.F ht⟩) hS.2.2 dX12_takes_59
def wn_putsAll : List Cond := .code yX12_putsAll cX12_putsAll 4 none :: ([])
set_option maxHeartbeats 4000000 in
set_option maxRecDepth 100000 in
theorem n_putsAll (l : Launch) (dC : Nat → ClassId) (dI : Nat → Nat → Nat) (sz : Nat) (h0 : Nat) (v1 : Int32) (fs : List Value) (ws : va_W) (tl : List (ClassId × FieldType)) (k0 : Nat) (he0 : ws[k0]? = some (h0, .inr (12, fs)))  : Met l yX12_putsAll wn_putsAll ({ frames := 0, cells := 0, slots := 0, locals := 0 } : Room) (va_Pc [.ref h0, .int v1, .int 0] (fun U => U.heap.size = sz ∧ va_P (dC, dI) cls ws U.heap ∧ va_K (dC, dI) cls tl U ∧ va_D (fun _ => True) ws)) (va_Qv (fun _ : Unit => True) (fun (_ : Unit) t => va_P (dC, dI) cls ws t.heap ∧ va_K (dC, dI) cls tl t ∧ va_D (va_A ws sz) ws) (va_A ws sz)) 0 0 (va_A ws sz) := by
  refine Met.ofW (cc := cX12_putsAll) (maxL := 4) (ret := none) (by decide) rfl ?_
  intro p e s m args below meth c s₁ B hml hv
  obtain ⟨rfl, hsz, hP, hK, hD0⟩ := hv
  have hx := B.exec
  have hb := B.bytes
  have hr := B.returns
  have hts := atoms_spec (ws := wn_putsAll) B.pre
  have hown : s.vm.findClass RX12 = some m.cls := findClass_of_methodNamed B.named
  have hlocks := B.notSynchronized
  subst hsz
  have hD := hD0.self (sz := s.heap.size)
  generalize hAe : va_A ws s.heap.size = A at hD ⊢
  have hA : ∀ q : Nat, s.heap.size ≤ q → A q := fun q h => by rw [← hAe]; exact Or.inr h
  have hP : va_P (dC, dI) cls ws s.heap := hP
  have hl := lv_entry ([.ref h0, .int v1, .int 0]) (n := 4) (Nat.le_of_ble_eq_true rfl)
  rw [lg_entry_eq]
  generalize (lg_sl ([.ref h0, .int v1, .int 0]) ++ List.replicate (4 - (lg_sl ([.ref h0, .int v1, .int 0])).length) Slot.unset).toArray = ls at hl ⊢
  have hl : lv_has ls 4 [(0, .ref h0), (1, .int v1), (2, .int 0)] := hl
  obtain ⟨H, hH⟩ : ∃ H : Heap, s.heap = H := ⟨_, rfl⟩
  rw [hH] at hP ⊢
  have hS : va_S A s.heap H [] := by rw [← hH]; exact va_S.rf
  refine lv_iconst (v := 0) hx hb dX12_putsAll_0 (by decide) ?_
  refine lv_istore_n (lv' := [(3, .int 0), (0, .ref h0), (1, .int v1), (2, .int 0)]) hx hb dX12_putsAll_1 rfl hl (by decide) rfl (fun ls hl => ?_)
  refine lv_iload_n hx hb dX12_putsAll_2 rfl (lv_at hl 0 rfl) ?_
  refine lv_iload_n hx hb dX12_putsAll_3 rfl (lv_at hl 3 rfl) ?_
  refine lv_icmp_ge (tgt := 25) hx hb dX12_putsAll_4 (by decide) (fun c_1 => ?_) (fun c_1 => ?_)
  rotate_left
  · exact (by revert c_1; decide : False).elim
  have hP9 := hP
  have hD9 := hD
  have hK9 := hK
  exact W.vret hx hb hr (fun t ht hW => ⟨⟨(), rfl, trivial, by rw [ht]; exact hP9, va_K.moved hW.alike hK9, hD9⟩, hS.F ht⟩) hS.2.2 dX12_putsAll_25
def wn_text : List Cond := .code yX12_text cX12_text 5 (some .int) :: ([.fieldLink RX12 142 "PutBackModel" "told" "I", .fieldLink RX12 318 "PutBackModel" "taped" "I", .methodLink RX12 514 yX12_isSlot, .instanceMethod yX12_isSlot, .selects RX12 yX12_isSlot yX12_isSlot, .initialized RX12, .code yX12_isSlot cX12_isSlot 2 (some .boolean), .constantLong RX12 512 (7), .methodLink RX12 153 yX12_isIn, .instanceMethod yX12_isIn, .selects RX12 yX12_isIn yX12_isIn, .code yX12_isIn cX12_isIn 7 (some .boolean), .fieldLink RX12 115 "PutBackModel" "slotLong" "[I"] ++ wsX120)
theorem in_text_RX12 : ∀ w ∈ u_ws RX12 TX12 65, w ∈ wn_text := fun w h => List.mem_cons_of_mem _ (List.mem_append_right _ h)
theorem gn_text_514g : GoodIn wn_text wn_isSlot := goodIn_r _ [7, 8, 9, 10, 11, 6, 12] (by decide +kernel) (by decide +kernel)
theorem gn_text_514 : GoodIn wn_text (wsV RX12 514 RX12 yX12_isSlot wn_isSlot) := goodIn_app (goodIn_of _ (by decide +kernel)) gn_text_514g
set_option maxHeartbeats 4000000 in
set_option maxRecDepth 100000 in
theorem n_text (l : Launch) (dC : Nat → ClassId) (dI : Nat → Nat → Nat) (sz : Nat) (h0 : Nat) (v1 : Int32) (a1 : Nat) (a2 : Nat) (a3 : Nat) (a4 : Nat) (a5 : Nat) (a7 : Nat) (a8 : Nat) (a10 : Nat) (a11 : Nat) (a12 : Nat) (a13 : Nat) (a15 : Nat) (a16 : Nat) (a17 : Nat) (a18 : Nat) (a19 : Nat) (a20 : Nat) (a21 : Nat) (a22 : Nat) (a24 : Nat) (a26 : Nat) (a27 : Nat) (a29 : Nat) (a30 : Nat) (a31 : Nat) (a32 : Nat) (a33 : Nat) (a35 : Nat) (a36 : Nat) (a38 : Nat) (a50 : Nat) (a51 : Nat) (a54 : Nat) (a55 : Nat) (a57 : Nat) (a58 : Nat) (a59 : Nat) (a60 : Nat) (a64 : Nat) (cI : ClassId) (ws : va_W) (tl : List (ClassId × FieldType)) (k0 : Nat) (he0 : ws[k0]? = some (h0, .inr (12, [.int 0, .ref a1, .ref a2, .ref a3, .ref a4, .ref a5, .int 0, .ref a7, .ref a8, .int 0, .ref a10, .ref a11, .ref a12, .ref a13, .int 0, .ref a15, .ref a16, .ref a17, .ref a18, .ref a19, .ref a20, .ref a21, .ref a22, .int 0, .ref a24, .int 0, .ref a26, .ref a27, .int 0, .ref a29, .ref a30, .ref a31, .ref a32, .ref a33, .int 0, .ref a35, .ref a36, .int 0, .ref a38, .int 0, .int 0, .int 0, .int 0, .int 0, .long 0, .int 0, .int 0, .int (-1), .int (-1), .int 0, .ref a50, .ref a51, .int 0, .int 0, .ref a54, .ref a55, .int (-1), .ref a57, .ref a58, .ref a59, .ref a60, .int 0, .int 0, .int 0, .ref a64]))) (k1 : Nat) (he1 : ws[k1]? = some (a51, .inl (cI, 8, .inl (fun _ => 0)))) (t0 : Nat) (ht0 : tl[t0]? = some (cI, .int))  : Met l yX12_text wn_text ({ frames := 2, cells := 0, slots := 0, locals := 47 } : Room) (va_Pc [.ref h0, .int v1] (fun U => U.heap.size = sz ∧ va_P (dC, dI) cls ws U.heap ∧ va_K (dC, dI) cls tl U ∧ va_D (fun _ => True) ws)) (va_Qi (fun (r : Int32) (_ : Unit) => r = sp_text v1) (fun (_ : Unit) t => va_P (dC, dI) cls ws t.heap ∧ va_K (dC, dI) cls tl t ∧ va_D (va_A ws sz) ws) (va_A ws sz)) 0 0 (va_A ws sz) := by
  refine Met.ofW (cc := cX12_text) (maxL := 5) (ret := (some .int)) (by decide) rfl ?_
  intro p e s m args below meth c s₁ B hml hv
  obtain ⟨rfl, hsz, hP, hK, hD0⟩ := hv
  have hx := B.exec
  have hb := B.bytes
  have hr := B.returns
  have hts := atoms_spec (ws := wn_text) B.pre
  have hown : s.vm.findClass RX12 = some m.cls := findClass_of_methodNamed B.named
  have hlocks := B.notSynchronized
  subst hsz
  have hD := hD0.self (sz := s.heap.size)
  generalize hAe : va_A ws s.heap.size = A at hD ⊢
  have hA : ∀ q : Nat, s.heap.size ≤ q → A q := fun q h => by rw [← hAe]; exact Or.inr h
  have hP : va_P (dC, dI) cls ws s.heap := hP
  have hl := lv_entry ([.ref h0, .int v1]) (n := 5) (Nat.le_of_ble_eq_true rfl)
  rw [lg_entry_eq]
  generalize (lg_sl ([.ref h0, .int v1]) ++ List.replicate (5 - (lg_sl ([.ref h0, .int v1])).length) Slot.unset).toArray = ls at hl ⊢
  have hl : lv_has ls 5 [(0, .ref h0), (1, .int v1)] := hl
  obtain ⟨H, hH⟩ : ∃ H : Heap, s.heap = H := ⟨_, rfl⟩
  rw [hH] at hP ⊢
  have hS : va_S A s.heap H [] := by rw [← hH]; exact va_S.rf
  refine lv_aload_n hx hb dX12_text_0 rfl (lv_at hl 0 rfl) ?_
  refine lv_iconst (v := 0) hx hb dX12_text_1 (by decide) ?_
  refine va_put (D := (dC, dI)) (ci := 12) (v := .int 0) (ty := .int) (C := RX12) (T := TX12) (N := 65) hx hb hts in_text_RX12 tyX12 tyX12_ok nmX12 hown hK hP hD hS k0 he0 rfl 0 (by decide) (hts (.fieldLink RX12 142 "PutBackModel" "told" "I") (by decide +kernel)) (fun _ h9 => h9) rfl (by decide +kernel) rfl rfl (Nat.le_of_ble_eq_true rfl) dX12_text_2 (fun H locs hP _ hS => ?_)
  have hP : va_P (dC, dI) cls ws H := by rw [← zSame he0]; exact hP
  refine lv_aload_n hx hb dX12_text_5 rfl (lv_at hl 0 rfl) ?_
  refine va_get (D := (dC, dI)) (ci := 12) (v := .int 0) (C := RX12) (T := TX12) (N := 65) hx hb hts in_text_RX12 hown hK hP k0 he0 rfl 39 (by decide) (hts (.fieldLink RX12 318 "PutBackModel" "taped" "I") (by decide +kernel)) (fun _ h9 => h9) rfl dX12_text_6 ?_
  refine lv_istore_n (lv' := [(2, .int 0), (0, .ref h0), (1, .int v1)]) hx hb dX12_text_9 rfl hl (by decide) rfl (fun ls hl => ?_)
  refine lv_aload_n hx hb dX12_text_10 rfl (lv_at hl 1 rfl) ?_
  refine lv_iconst (v := 0) hx hb dX12_text_11 (by decide) ?_
  refine va_put (D := (dC, dI)) (ci := 12) (v := .int 0) (ty := .int) (C := RX12) (T := TX12) (N := 65) hx hb hts in_text_RX12 tyX12 tyX12_ok nmX12 hown hK hP hD hS k0 he0 rfl 39 (by decide) (hts (.fieldLink RX12 318 "PutBackModel" "taped" "I") (by decide +kernel)) (fun _ h9 => h9) rfl (by decide +kernel) rfl rfl (Nat.le_of_ble_eq_true rfl) dX12_text_12 (fun H locs hP _ hS => ?_)
  have hP : va_P (dC, dI) cls ws H := by rw [← zSame he0]; exact hP
  refine lv_aload_n hx hb dX12_text_15 rfl (lv_at hl 1 rfl) ?_
  refine lv_iload_n hx hb dX12_text_16 rfl (lv_at hl 2 rfl) ?_
  have hFc := zFree hD hS hA
  refine va_calli (va_runV (As := [.int v1]) (rest := []) ⟨hx, hb, hml, hown, hts⟩ (n_isSlot l dC dI H.size h0 v1 ([.int 0, .ref a1, .ref a2, .ref a3, .ref a4, .ref a5, .int 0, .ref a7, .ref a8, .int 0, .ref a10, .ref a11, .ref a12, .ref a13, .int 0, .ref a15, .ref a16, .ref a17, .ref a18, .ref a19, .ref a20, .ref a21, .ref a22, .int 0, .ref a24, .int 0, .ref a26, .ref a27, .int 0, .ref a29, .ref a30, .ref a31, .ref a32, .ref a33, .int 0, .ref a35, .ref a36, .int 0, .ref a38, .int 0, .int 0, .int 0, .int 0, .int 0, .long 0, .int 0, .int 0, .int (-1), .int (-1), .int 0, .ref a50, .ref a51, .int 0, .int 0, .ref a54, .ref a55, .int (-1), .ref a57, .ref a58, .ref a59, .ref a60, .int 0, .int 0, .int 0, .ref a64]) ws tl k0 he0) (cwV 1 hts gn_text_514 rfl rfl rfl (by decide +kernel) ⟨Nat.le_of_ble_eq_true rfl, Nat.le_of_ble_eq_true rfl⟩) ⟨fun a U g mk q => by obtain ⟨q0, q1, qP, qK, qD⟩ := q; exact ⟨q0, q1, qP, va_K.moved (u := U) (U := U.calling g mk a) (Vm.Alike.refl U.vm) qK, qD⟩, va_recv hK hP (ci := 12) (q0 := k0) rfl he0, fun U hU hW => ⟨rfl, by rw [hU], by rw [hU]; exact hP, va_K.moved hW.alike hK, hD.weaken (fun _ _ _ _ => trivial)⟩⟩ rfl rfl hl.1 rfl (lv_room (Nat.le_of_ble_eq_true rfl)) dX12_text_17 ⟨Nat.le_of_ble_eq_true rfl, Nat.le_of_ble_eq_true rfl⟩) hS (fun q _ h => hFc q h) hFc (fun r_1 u t H1 locs ht hvm hw hB hz1 hk1 hS => ?_)
  obtain ⟨hP, hK1, hD1⟩ := hB
  rw [ht] at hP
  try dsimp only at hw
  clear hk1 hz1 hFc hD1 hK1
  generalize H1 = H at hP hS ⊢
  rcases hw with ⟨rfl, f_2⟩ | ⟨rfl, f_2⟩
  · skip
    refine lv_if_eq (tgt := 33) hx hb dX12_text_20 (by decide) (fun c_3 => ?_) (fun c_3 => ?_)
    · exact (by revert c_3; decide : False).elim
    refine lv_iload_n hx hb dX12_text_23 rfl (lv_at hl 0 rfl) ?_
    refine lv_bipush (v := 60) hx hb dX12_text_24 (by decide) ?_
    refine lv_icmp_gt (tgt := 33) hx hb dX12_text_26 (by decide) (fun c_4 => ?_) (fun c_4 => ?_)
    · exact (by revert c_4; decide : False).elim
    refine lv_iconst (v := 1) hx hb dX12_text_29 (by decide) ?_
    refine lv_goto (tgt := 34) hx hb dX12_text_30 (by decide) ?_
    refine lv_istore_n (lv' := [(3, .int 1), (2, .int 0), (0, .ref h0), (1, .int v1)]) hx hb dX12_text_34 rfl hl (by decide) rfl (fun ls hl => ?_)
    refine lv_iconst (v := 0) hx hb dX12_text_35 (by decide) ?_
    refine lv_istore (lv' := [(4, .int 0), (3, .int 1), (2, .int 0), (0, .ref h0), (1, .int v1)]) hx hb dX12_text_36 hl (by decide) rfl (fun ls hl => ?_)
    refine lv_iload hx hb dX12_text_38 (lv_at hl 0 rfl) ?_
    refine lv_iload_n hx hb dX12_text_40 rfl (lv_at hl 2 rfl) ?_
    refine lv_icmp_ge (tgt := 79) hx hb dX12_text_41 (by decide) (fun c_5 => ?_) (fun c_5 => ?_)
    rotate_left
    · exact (by revert c_5; decide : False).elim
    refine lv_iload_n hx hb dX12_text_79 rfl (lv_at hl 1 rfl) ?_
    refine lv_if_ne (tgt := 85) hx hb dX12_text_80 (by decide) (fun c_6 => ?_) (fun c_6 => ?_)
    rotate_left
    · exact (by revert c_6; decide : False).elim
    refine lv_iconst (v := 0) hx hb dX12_text_85 (by decide) ?_
    refine lv_istore (lv' := [(4, .int 0), (3, .int 1), (2, .int 0), (0, .ref h0), (1, .int v1)]) hx hb dX12_text_86 hl (by decide) rfl (fun ls hl => ?_)
    refine lv_iload hx hb dX12_text_88 (lv_at hl 0 rfl) ?_
    refine lv_iload_n hx hb dX12_text_90 rfl (lv_at hl 2 rfl) ?_
    refine lv_icmp_ge (tgt := 127) hx hb dX12_text_91 (by decide) (fun c_7 => ?_) (fun c_7 => ?_)
    rotate_left
    · exact (by revert c_7; decide : False).elim
    refine lv_aload_n hx hb dX12_text_127 rfl (lv_at hl 3 rfl) ?_
    refine va_get (D := (dC, dI)) (ci := 12) (v := .ref a51) (C := RX12) (T := TX12) (N := 65) hx hb hts in_text_RX12 hown hK hP k0 he0 rfl 51 (by decide) (hts (.fieldLink RX12 115 "PutBackModel" "slotLong" "[I") (by decide +kernel)) (fun _ h9 => h9) rfl dX12_text_128 ?_
    refine lv_iload_n hx hb dX12_text_131 rfl (lv_at hl 4 rfl) ?_
    refine lv_iload_n hx hb dX12_text_132 rfl (lv_at hl 2 rfl) ?_
    refine va_iast hx hb hK hP hD hS k1 t0 he1 ht0 (zVp f_2) dX12_text_133 (fun H locs hP _ hS => ?_)
    have hP : va_P (dC, dI) cls ws H := by rw [← zSame he1]; rw [zUpd] at hP; exact hP
    refine lv_iload_n hx hb dX12_text_134 rfl (lv_at hl 2 rfl) ?_
    have hP9 := hP
    have hD9 := hD
    have hK9 := hK
    exact W.iret (v := 0) hx hb hr (fun t ht hW => ⟨⟨0, (), rfl, (by simp [sp_text, f_2]), by rw [ht]; exact hP9, va_K.moved hW.alike hK9, hD9⟩, hS.F ht⟩) hS.2.2 dX12_text_135
  · skip
    refine lv_if_eq (tgt := 33) hx hb dX12_text_20 (by decide) (fun c_8 => ?_) (fun c_8 => ?_)
    rotate_left
    · exact (by revert c_8; decide : False).elim
    refine lv_iconst (v := 0) hx hb dX12_text_33 (by decide) ?_
    refine lv_istore_n (lv' := [(3, .int 0), (2, .int 0), (0, .ref h0), (1, .int v1)]) hx hb dX12_text_34 rfl hl (by decide) rfl (fun ls hl => ?_)
    refine lv_iconst (v := 0) hx hb dX12_text_35 (by decide) ?_
    refine lv_istore (lv' := [(4, .int 0), (3, .int 0), (2, .int 0), (0, .ref h0), (1, .int v1)]) hx hb dX12_text_36 hl (by decide) rfl (fun ls hl => ?_)
    refine lv_iload hx hb dX12_text_38 (lv_at hl 0 rfl) ?_
    refine lv_iload_n hx hb dX12_text_40 rfl (lv_at hl 2 rfl) ?_
    refine lv_icmp_ge (tgt := 79) hx hb dX12_text_41 (by decide) (fun c_9 => ?_) (fun c_9 => ?_)
    rotate_left
    · exact (by revert c_9; decide : False).elim
    refine lv_iload_n hx hb dX12_text_79 rfl (lv_at hl 1 rfl) ?_
    refine lv_if_ne (tgt := 85) hx hb dX12_text_80 (by decide) (fun c_10 => ?_) (fun c_10 => ?_)
    · exact (by revert c_10; decide : False).elim
    refine lv_iconst (v := (-1)) hx hb dX12_text_83 (by decide) ?_
    have hP9 := hP
    have hD9 := hD
    have hK9 := hK
    exact W.iret (v := (-1)) hx hb hr (fun t ht hW => ⟨⟨(-1), (), rfl, (by simp [sp_text, f_2]), by rw [ht]; exact hP9, va_K.moved hW.alike hK9, hD9⟩, hS.F ht⟩) hS.2.2 dX12_text_84
def wn_symbol : List Cond := .code yX12_symbol cX12_symbol 3 (some .int) :: ([.fieldLink RX12 142 "PutBackModel" "told" "I", .methodLink RX12 514 yX12_isSlot, .instanceMethod yX12_isSlot, .selects RX12 yX12_isSlot yX12_isSlot, .initialized RX12, .code yX12_isSlot cX12_isSlot 2 (some .boolean), .constantLong RX12 512 (7), .methodLink RX12 153 yX12_isIn, .instanceMethod yX12_isIn, .selects RX12 yX12_isIn yX12_isIn, .code yX12_isIn cX12_isIn 7 (some .boolean), .fieldLink RX12 115 "PutBackModel" "slotLong" "[I"] ++ wsX120)
theorem in_symbol_RX12 : ∀ w ∈ u_ws RX12 TX12 65, w ∈ wn_symbol := fun w h => List.mem_cons_of_mem _ (List.mem_append_right _ h)
theorem gn_symbol_514g : GoodIn wn_symbol wn_isSlot := goodIn_r _ [6, 7, 8, 9, 10, 5, 11] (by decide +kernel) (by decide +kernel)
theorem gn_symbol_514 : GoodIn wn_symbol (wsV RX12 514 RX12 yX12_isSlot wn_isSlot) := goodIn_app (goodIn_of _ (by decide +kernel)) gn_symbol_514g
theorem gn_symbol_153g : GoodIn wn_symbol wn_isIn := goodIn_r _ [11] (by decide +kernel) (by decide +kernel)
theorem gn_symbol_153 : GoodIn wn_symbol (wsV RX12 153 RX12 yX12_isIn wn_isIn) := goodIn_app (goodIn_of _ (by decide +kernel)) gn_symbol_153g
set_option maxHeartbeats 4000000 in
set_option maxRecDepth 100000 in
theorem n_symbol (l : Launch) (dC : Nat → ClassId) (dI : Nat → Nat → Nat) (sz : Nat) (h0 : Nat) (v1 : Int32) (v2 : Int32) (a1 : Nat) (a2 : Nat) (a3 : Nat) (a4 : Nat) (a5 : Nat) (a7 : Nat) (a8 : Nat) (a10 : Nat) (a11 : Nat) (a12 : Nat) (a13 : Nat) (a15 : Nat) (a16 : Nat) (a17 : Nat) (a18 : Nat) (a19 : Nat) (a20 : Nat) (a21 : Nat) (a22 : Nat) (a24 : Nat) (a26 : Nat) (a27 : Nat) (a29 : Nat) (a30 : Nat) (a31 : Nat) (a32 : Nat) (a33 : Nat) (a35 : Nat) (a36 : Nat) (a38 : Nat) (a50 : Nat) (a51 : Nat) (a54 : Nat) (a55 : Nat) (a57 : Nat) (a58 : Nat) (a59 : Nat) (a60 : Nat) (a64 : Nat) (cI : ClassId) (ws : va_W) (tl : List (ClassId × FieldType)) (k0 : Nat) (he0 : ws[k0]? = some (h0, .inr (12, [.int 0, .ref a1, .ref a2, .ref a3, .ref a4, .ref a5, .int 0, .ref a7, .ref a8, .int 0, .ref a10, .ref a11, .ref a12, .ref a13, .int 0, .ref a15, .ref a16, .ref a17, .ref a18, .ref a19, .ref a20, .ref a21, .ref a22, .int 0, .ref a24, .int 0, .ref a26, .ref a27, .int 0, .ref a29, .ref a30, .ref a31, .ref a32, .ref a33, .int 0, .ref a35, .ref a36, .int 0, .ref a38, .int 0, .int 0, .int 0, .int 0, .int 0, .long 0, .int 0, .int 0, .int (-1), .int (-1), .int 0, .ref a50, .ref a51, .int 0, .int 0, .ref a54, .ref a55, .int (-1), .ref a57, .ref a58, .ref a59, .ref a60, .int 0, .int 0, .int 0, .ref a64]))) (k1 : Nat) (he1 : ws[k1]? = some (a51, .inl (cI, 8, .inl (fun _ => 0)))) (t0 : Nat) (ht0 : tl[t0]? = some (cI, .int))  : Met l yX12_symbol wn_symbol ({ frames := 2, cells := 0, slots := 0, locals := 47 } : Room) (va_Pc [.ref h0, .int v1, .int v2] (fun U => U.heap.size = sz ∧ va_P (dC, dI) cls ws U.heap ∧ va_K (dC, dI) cls tl U ∧ va_D (fun _ => True) ws)) (va_Qi (fun (r : Int32) (_ : Unit) => r = sp_symbol v1 v2) (fun (_ : Unit) t => va_P (dC, dI) cls ws t.heap ∧ va_K (dC, dI) cls tl t ∧ va_D (va_A ws sz) ws) (va_A ws sz)) 0 0 (va_A ws sz) := by
  refine Met.ofW (cc := cX12_symbol) (maxL := 3) (ret := (some .int)) (by decide) rfl ?_
  intro p e s m args below meth c s₁ B hml hv
  obtain ⟨rfl, hsz, hP, hK, hD0⟩ := hv
  have hx := B.exec
  have hb := B.bytes
  have hr := B.returns
  have hts := atoms_spec (ws := wn_symbol) B.pre
  have hown : s.vm.findClass RX12 = some m.cls := findClass_of_methodNamed B.named
  have hlocks := B.notSynchronized
  subst hsz
  have hD := hD0.self (sz := s.heap.size)
  generalize hAe : va_A ws s.heap.size = A at hD ⊢
  have hA : ∀ q : Nat, s.heap.size ≤ q → A q := fun q h => by rw [← hAe]; exact Or.inr h
  have hP : va_P (dC, dI) cls ws s.heap := hP
  have hl := lv_entry ([.ref h0, .int v1, .int v2]) (n := 3) (Nat.le_of_ble_eq_true rfl)
  rw [lg_entry_eq]
  generalize (lg_sl ([.ref h0, .int v1, .int v2]) ++ List.replicate (3 - (lg_sl ([.ref h0, .int v1, .int v2])).length) Slot.unset).toArray = ls at hl ⊢
  have hl : lv_has ls 3 [(0, .ref h0), (1, .int v1), (2, .int v2)] := hl
  obtain ⟨H, hH⟩ : ∃ H : Heap, s.heap = H := ⟨_, rfl⟩
  rw [hH] at hP ⊢
  have hS : va_S A s.heap H [] := by rw [← hH]; exact va_S.rf
  refine lv_aload_n hx hb dX12_symbol_0 rfl (lv_at hl 0 rfl) ?_
  refine lv_iconst (v := 0) hx hb dX12_symbol_1 (by decide) ?_
  refine va_put (D := (dC, dI)) (ci := 12) (v := .int 0) (ty := .int) (C := RX12) (T := TX12) (N := 65) hx hb hts in_symbol_RX12 tyX12 tyX12_ok nmX12 hown hK hP hD hS k0 he0 rfl 0 (by decide) (hts (.fieldLink RX12 142 "PutBackModel" "told" "I") (by decide +kernel)) (fun _ h9 => h9) rfl (by decide +kernel) rfl rfl (Nat.le_of_ble_eq_true rfl) dX12_symbol_2 (fun H locs hP _ hS => ?_)
  have hP : va_P (dC, dI) cls ws H := by rw [← zSame he0]; exact hP
  refine lv_aload_n hx hb dX12_symbol_5 rfl (lv_at hl 0 rfl) ?_
  refine lv_iload_n hx hb dX12_symbol_6 rfl (lv_at hl 1 rfl) ?_
  have hFc := zFree hD hS hA
  refine va_calli (va_runV (As := [.int v1]) (rest := []) ⟨hx, hb, hml, hown, hts⟩ (n_isSlot l dC dI H.size h0 v1 ([.int 0, .ref a1, .ref a2, .ref a3, .ref a4, .ref a5, .int 0, .ref a7, .ref a8, .int 0, .ref a10, .ref a11, .ref a12, .ref a13, .int 0, .ref a15, .ref a16, .ref a17, .ref a18, .ref a19, .ref a20, .ref a21, .ref a22, .int 0, .ref a24, .int 0, .ref a26, .ref a27, .int 0, .ref a29, .ref a30, .ref a31, .ref a32, .ref a33, .int 0, .ref a35, .ref a36, .int 0, .ref a38, .int 0, .int 0, .int 0, .int 0, .int 0, .long 0, .int 0, .int 0, .int (-1), .int (-1), .int 0, .ref a50, .ref a51, .int 0, .int 0, .ref a54, .ref a55, .int (-1), .ref a57, .ref a58, .ref a59, .ref a60, .int 0, .int 0, .int 0, .ref a64]) ws tl k0 he0) (cwV 1 hts gn_symbol_514 rfl rfl rfl (by decide +kernel) ⟨Nat.le_of_ble_eq_true rfl, Nat.le_of_ble_eq_true rfl⟩) ⟨fun a U g mk q => by obtain ⟨q0, q1, qP, qK, qD⟩ := q; exact ⟨q0, q1, qP, va_K.moved (u := U) (U := U.calling g mk a) (Vm.Alike.refl U.vm) qK, qD⟩, va_recv hK hP (ci := 12) (q0 := k0) rfl he0, fun U hU hW => ⟨rfl, by rw [hU], by rw [hU]; exact hP, va_K.moved hW.alike hK, hD.weaken (fun _ _ _ _ => trivial)⟩⟩ rfl rfl hl.1 rfl (lv_room (Nat.le_of_ble_eq_true rfl)) dX12_symbol_7 ⟨Nat.le_of_ble_eq_true rfl, Nat.le_of_ble_eq_true rfl⟩) hS (fun q _ h => hFc q h) hFc (fun r_1 u t H1 locs ht hvm hw hB hz1 hk1 hS => ?_)
  obtain ⟨hP, hK1, hD1⟩ := hB
  rw [ht] at hP
  try dsimp only at hw
  clear hk1 hz1 hFc hD1 hK1
  generalize H1 = H at hP hS ⊢
  rcases hw with ⟨rfl, f_2⟩ | ⟨rfl, f_2⟩
  · skip
    refine lv_if_ne (tgt := 15) hx hb dX12_symbol_10 (by decide) (fun c_3 => ?_) (fun c_3 => ?_)
    rotate_left
    · exact (by revert c_3; decide : False).elim
    refine lv_iload_n hx hb dX12_symbol_15 rfl (lv_at hl 2 rfl) ?_
    refine lv_iconst (v := (-1)) hx hb dX12_symbol_16 (by decide) ?_
    refine lv_icmp_ne (tgt := 29) hx hb dX12_symbol_17 (by decide) (fun c_4 => ?_) (fun c_4 => ?_)
    · skip
      refine lv_aload_n hx hb dX12_symbol_29 rfl (lv_at hl 0 rfl) ?_
      refine lv_iload_n hx hb dX12_symbol_30 rfl (lv_at hl 2 rfl) ?_
      refine lv_i2l (v := v2.toInt64) hx hb dX12_symbol_31 rfl ?_
      refine lv_lconst (v := 0) hx hb dX12_symbol_32 (by decide) ?_
      refine lv_aload_n hx hb dX12_symbol_33 rfl (lv_at hl 0 rfl) ?_
      refine va_get (D := (dC, dI)) (ci := 12) (v := .ref a51) (C := RX12) (T := TX12) (N := 65) hx hb hts in_symbol_RX12 hown hK hP k0 he0 rfl 51 (by decide) (hts (.fieldLink RX12 115 "PutBackModel" "slotLong" "[I") (by decide +kernel)) (fun _ h9 => h9) rfl dX12_symbol_34 ?_
      refine lv_iload_n hx hb dX12_symbol_37 rfl (lv_at hl 1 rfl) ?_
      refine va_iald hx hb hK hP k1 t0 he1 ht0 (zVp f_2) dX12_symbol_38 ?_
      refine lv_topi (fun z_5 ez_5 => ?_)
      obtain rfl : z_5 = (0 : Int32) := ez_5
      refine lv_i2l (v := 0) hx hb dX12_symbol_39 (by decide) ?_
      refine lv_lconst (v := 1) hx hb dX12_symbol_40 (by decide) ?_
      refine lv_lsub hx hb dX12_symbol_41 ?_
      refine lv_topl (fun z_6 ez_6 => ?_)
      obtain rfl : z_6 = ((-1) : Int64) := ez_6.trans (by decide)
      have hFc := zFree hD hS hA
      refine va_calli (va_runV (As := [.long v2.toInt64, .long 0, .long (-1)]) (rest := []) ⟨hx, hb, hml, hown, hts⟩ (n_isIn l dC dI H.size h0 v2.toInt64 0 (-1) ws tl) (cwV 3 hts gn_symbol_153 rfl rfl rfl (by decide +kernel) ⟨Nat.le_of_ble_eq_true rfl, Nat.le_of_ble_eq_true rfl⟩) ⟨fun a U g mk q => by obtain ⟨q0, q1, qP, qK, qD⟩ := q; exact ⟨q0, q1, qP, va_K.moved (u := U) (U := U.calling g mk a) (Vm.Alike.refl U.vm) qK, qD⟩, va_recv hK hP (ci := 12) (q0 := k0) rfl he0, fun U hU hW => ⟨rfl, by rw [hU], by rw [hU]; exact hP, va_K.moved hW.alike hK, hD.weaken (fun _ _ _ _ => trivial)⟩⟩ rfl rfl hl.1 rfl (lv_room (Nat.le_of_ble_eq_true rfl)) dX12_symbol_42 ⟨Nat.le_of_ble_eq_true rfl, Nat.le_of_ble_eq_true rfl⟩) hS (fun q _ h => hFc q h) hFc (fun r_7 u t H1 locs ht hvm hw hB hz1 hk1 hS => ?_)
      obtain ⟨hP, hK1, hD1⟩ := hB
      rw [ht] at hP
      try dsimp only at hw
      clear hk1 hz1 hFc hD1 hK1
      generalize H1 = H at hP hS ⊢
      rcases hw with ⟨rfl, f_8⟩ | ⟨rfl, f_8⟩
      · exact absurd f_8 zL
      · skip
        refine lv_if_eq (tgt := 66) hx hb dX12_symbol_45 (by decide) (fun c_9 => ?_) (fun c_9 => ?_)
        rotate_left
        · exact (by revert c_9; decide : False).elim
        refine lv_iconst (v := (-1)) hx hb dX12_symbol_66 (by decide) ?_
        have hP9 := hP
        have hD9 := hD
        have hK9 := hK
        exact W.iret (v := (-1)) hx hb hr (fun t ht hW => ⟨⟨(-1), (), rfl, (by simp [sp_symbol, f_2, c_4, f_8]), by rw [ht]; exact hP9, va_K.moved hW.alike hK9, hD9⟩, hS.F ht⟩) hS.2.2 dX12_symbol_67
    · skip
      refine lv_aload_n hx hb dX12_symbol_20 rfl (lv_at hl 0 rfl) ?_
      refine va_get (D := (dC, dI)) (ci := 12) (v := .ref a51) (C := RX12) (T := TX12) (N := 65) hx hb hts in_symbol_RX12 hown hK hP k0 he0 rfl 51 (by decide) (hts (.fieldLink RX12 115 "PutBackModel" "slotLong" "[I") (by decide +kernel)) (fun _ h9 => h9) rfl dX12_symbol_21 ?_
      refine lv_iload_n hx hb dX12_symbol_24 rfl (lv_at hl 1 rfl) ?_
      refine va_iald hx hb hK hP k1 t0 he1 ht0 (zVp f_2) dX12_symbol_25 ?_
      refine lv_topi (fun z_10 ez_10 => ?_)
      obtain rfl : z_10 = (0 : Int32) := ez_10
      refine lv_goto (tgt := 67) hx hb dX12_symbol_26 (by decide) ?_
      have hP9 := hP
      have hD9 := hD
      have hK9 := hK
      exact W.iret (v := 0) hx hb hr (fun t ht hW => ⟨⟨0, (), rfl, (by simp [sp_symbol, f_2, c_4]), by rw [ht]; exact hP9, va_K.moved hW.alike hK9, hD9⟩, hS.F ht⟩) hS.2.2 dX12_symbol_67
  · skip
    refine lv_if_ne (tgt := 15) hx hb dX12_symbol_10 (by decide) (fun c_11 => ?_) (fun c_11 => ?_)
    · exact (by revert c_11; decide : False).elim
    refine lv_iconst (v := (-1)) hx hb dX12_symbol_13 (by decide) ?_
    have hP9 := hP
    have hD9 := hD
    have hK9 := hK
    exact W.iret (v := (-1)) hx hb hr (fun t ht hW => ⟨⟨(-1), (), rfl, (by simp [sp_symbol, f_2]), by rw [ht]; exact hP9, va_K.moved hW.alike hK9, hD9⟩, hS.F ht⟩) hS.2.2 dX12_symbol_14
def wn_join : List Cond := .code yX12_join cX12_join 5 (some .int) :: ([.fieldLink RX12 142 "PutBackModel" "told" "I", .methodLink RX12 514 yX12_isSlot, .instanceMethod yX12_isSlot, .selects RX12 yX12_isSlot yX12_isSlot, .initialized RX12, .code yX12_isSlot cX12_isSlot 2 (some .boolean), .constantLong RX12 512 (7), .methodLink RX12 153 yX12_isIn, .instanceMethod yX12_isIn, .selects RX12 yX12_isIn yX12_isIn, .code yX12_isIn cX12_isIn 7 (some .boolean), .methodLink RX12 526 yX12_clearsHeap, .instanceMethod yX12_clearsHeap, .selects RX12 yX12_clearsHeap yX12_clearsHeap, .code yX12_clearsHeap cX12_clearsHeap 1 none, .fieldLink RX12 222 "PutBackModel" "top" "I", .fieldLink RX12 291 "PutBackModel" "partsTop" "I", .fieldLink RX12 306 "PutBackModel" "outsTop" "I", .methodLink RX12 529 yX12_lays, .instanceMethod yX12_lays, .selects RX12 yX12_lays yX12_lays, .code yX12_lays cX12_lays 4 (some .int), .fieldLink RX12 115 "PutBackModel" "slotLong" "[I", .methodLink RX12 535 yX12_takes, .instanceMethod yX12_takes, .selects RX12 yX12_takes yX12_takes, .code yX12_takes cX12_takes 5 (some .int)] ++ wsX120)
theorem in_join_RX12 : ∀ w ∈ u_ws RX12 TX12 65, w ∈ wn_join := fun w h => List.mem_cons_of_mem _ (List.mem_append_right _ h)
theorem gn_join_514g : GoodIn wn_join wn_isSlot := goodIn_r _ [6, 7, 8, 9, 10, 5, 11] (by decide +kernel) (by decide +kernel)
theorem gn_join_514 : GoodIn wn_join (wsV RX12 514 RX12 yX12_isSlot wn_isSlot) := goodIn_app (goodIn_of _ (by decide +kernel)) gn_join_514g
theorem gn_join_526g : GoodIn wn_join wn_clearsHeap := goodIn_r _ [15, 16, 17, 18, 28, 29, 30, 31, 32, 33, 34, 35, 36, 37, 38, 39, 40, 41, 42, 43, 44, 45, 46, 47, 48, 49, 50, 51, 52, 53, 54, 55, 56, 57, 58, 59, 60, 61, 62, 63, 64, 65, 66, 67, 68, 69, 70, 71, 72, 73, 74, 75, 76, 77, 78, 79, 80, 81, 82, 83, 84, 85, 86, 87, 88, 89, 90, 91, 92] (by decide +kernel) (by decide +kernel)
theorem gn_join_526 : GoodIn wn_join (wsV RX12 526 RX12 yX12_clearsHeap wn_clearsHeap) := goodIn_app (goodIn_of _ (by decide +kernel)) gn_join_526g
theorem gn_join_529g : GoodIn wn_join wn_lays := goodIn_r _ [22, 16, 23, 28, 29, 30, 31, 32, 33, 34, 35, 36, 37, 38, 39, 40, 41, 42, 43, 44, 45, 46, 47, 48, 49, 50, 51, 52, 53, 54, 55, 56, 57, 58, 59, 60, 61, 62, 63, 64, 65, 66, 67, 68, 69, 70, 71, 72, 73, 74, 75, 76, 77, 78, 79, 80, 81, 82, 83, 84, 85, 86, 87, 88, 89, 90, 91, 92] (by decide +kernel) (by decide +kernel)
theorem gn_join_529 : GoodIn wn_join (wsV RX12 529 RX12 yX12_lays wn_lays) := goodIn_app (goodIn_of _ (by decide +kernel)) gn_join_529g
theorem gn_join_535g : GoodIn wn_join wn_takes := goodIn_r _ [27, 16, 23, 28, 29, 30, 31, 32, 33, 34, 35, 36, 37, 38, 39, 40, 41, 42, 43, 44, 45, 46, 47, 48, 49, 50, 51, 52, 53, 54, 55, 56, 57, 58, 59, 60, 61, 62, 63, 64, 65, 66, 67, 68, 69, 70, 71, 72, 73, 74, 75, 76, 77, 78, 79, 80, 81, 82, 83, 84, 85, 86, 87, 88, 89, 90, 91, 92] (by decide +kernel) (by decide +kernel)
theorem gn_join_535 : GoodIn wn_join (wsV RX12 535 RX12 yX12_takes wn_takes) := goodIn_app (goodIn_of _ (by decide +kernel)) gn_join_535g
set_option maxHeartbeats 4000000 in
set_option maxRecDepth 100000 in
theorem n_join (l : Launch) (dC : Nat → ClassId) (dI : Nat → Nat → Nat) (sz : Nat) (h0 : Nat) (v1 : Int32) (v2 : Int32) (v3 : Int32) (a1 : Nat) (a2 : Nat) (a3 : Nat) (a4 : Nat) (a5 : Nat) (a7 : Nat) (a8 : Nat) (a10 : Nat) (a11 : Nat) (a12 : Nat) (a13 : Nat) (a15 : Nat) (a16 : Nat) (a17 : Nat) (a18 : Nat) (a19 : Nat) (a20 : Nat) (a21 : Nat) (a22 : Nat) (a24 : Nat) (a26 : Nat) (a27 : Nat) (a29 : Nat) (a30 : Nat) (a31 : Nat) (a32 : Nat) (a33 : Nat) (a35 : Nat) (a36 : Nat) (a38 : Nat) (a50 : Nat) (a51 : Nat) (a54 : Nat) (a55 : Nat) (a57 : Nat) (a58 : Nat) (a59 : Nat) (a60 : Nat) (a64 : Nat) (cI : ClassId) (ws : va_W) (tl : List (ClassId × FieldType)) (k0 : Nat) (he0 : ws[k0]? = some (h0, .inr (12, [.int 0, .ref a1, .ref a2, .ref a3, .ref a4, .ref a5, .int 0, .ref a7, .ref a8, .int 0, .ref a10, .ref a11, .ref a12, .ref a13, .int 0, .ref a15, .ref a16, .ref a17, .ref a18, .ref a19, .ref a20, .ref a21, .ref a22, .int 0, .ref a24, .int 0, .ref a26, .ref a27, .int 0, .ref a29, .ref a30, .ref a31, .ref a32, .ref a33, .int 0, .ref a35, .ref a36, .int 0, .ref a38, .int 0, .int 0, .int 0, .int 0, .int 0, .long 0, .int 0, .int 0, .int (-1), .int (-1), .int 0, .ref a50, .ref a51, .int 0, .int 0, .ref a54, .ref a55, .int (-1), .ref a57, .ref a58, .ref a59, .ref a60, .int 0, .int 0, .int 0, .ref a64]))) (k1 : Nat) (he1 : ws[k1]? = some (a51, .inl (cI, 8, .inl (fun _ => 0)))) (t0 : Nat) (ht0 : tl[t0]? = some (cI, .int))  : Met l yX12_join wn_join ({ frames := 2, cells := 0, slots := 0, locals := 47 } : Room) (va_Pc [.ref h0, .int v1, .int v2, .int v3] (fun U => U.heap.size = sz ∧ va_P (dC, dI) cls ws U.heap ∧ va_K (dC, dI) cls tl U ∧ va_D (fun _ => True) ws)) (va_Qi (fun (r : Int32) (_ : Unit) => r = sp_join v1 v2 v3) (fun (_ : Unit) t => va_P (dC, dI) cls ws t.heap ∧ va_K (dC, dI) cls tl t ∧ va_D (va_A ws sz) ws) (va_A ws sz)) 0 0 (va_A ws sz) := by
  refine Met.ofW (cc := cX12_join) (maxL := 5) (ret := (some .int)) (by decide) rfl ?_
  intro p e s m args below meth c s₁ B hml hv
  obtain ⟨rfl, hsz, hP, hK, hD0⟩ := hv
  have hx := B.exec
  have hb := B.bytes
  have hr := B.returns
  have hts := atoms_spec (ws := wn_join) B.pre
  have hown : s.vm.findClass RX12 = some m.cls := findClass_of_methodNamed B.named
  have hlocks := B.notSynchronized
  subst hsz
  have hD := hD0.self (sz := s.heap.size)
  generalize hAe : va_A ws s.heap.size = A at hD ⊢
  have hA : ∀ q : Nat, s.heap.size ≤ q → A q := fun q h => by rw [← hAe]; exact Or.inr h
  have hP : va_P (dC, dI) cls ws s.heap := hP
  have hl := lv_entry ([.ref h0, .int v1, .int v2, .int v3]) (n := 5) (Nat.le_of_ble_eq_true rfl)
  rw [lg_entry_eq]
  generalize (lg_sl ([.ref h0, .int v1, .int v2, .int v3]) ++ List.replicate (5 - (lg_sl ([.ref h0, .int v1, .int v2, .int v3])).length) Slot.unset).toArray = ls at hl ⊢
  have hl : lv_has ls 5 [(0, .ref h0), (1, .int v1), (2, .int v2), (3, .int v3)] := hl
  obtain ⟨H, hH⟩ : ∃ H : Heap, s.heap = H := ⟨_, rfl⟩
  rw [hH] at hP ⊢
  have hS : va_S A s.heap H [] := by rw [← hH]; exact va_S.rf
  refine lv_aload_n hx hb dX12_join_0 rfl (lv_at hl 0 rfl) ?_
  refine lv_iconst (v := 0) hx hb dX12_join_1 (by decide) ?_
  refine va_put (D := (dC, dI)) (ci := 12) (v := .int 0) (ty := .int) (C := RX12) (T := TX12) (N := 65) hx hb hts in_join_RX12 tyX12 tyX12_ok nmX12 hown hK hP hD hS k0 he0 rfl 0 (by decide) (hts (.fieldLink RX12 142 "PutBackModel" "told" "I") (by decide +kernel)) (fun _ h9 => h9) rfl (by decide +kernel) rfl rfl (Nat.le_of_ble_eq_true rfl) dX12_join_2 (fun H locs hP _ hS => ?_)
  have hP : va_P (dC, dI) cls ws H := by rw [← zSame he0]; exact hP
  refine lv_aload_n hx hb dX12_join_5 rfl (lv_at hl 0 rfl) ?_
  refine lv_iload_n hx hb dX12_join_6 rfl (lv_at hl 1 rfl) ?_
  have hFc := zFree hD hS hA
  refine va_calli (va_runV (As := [.int v1]) (rest := []) ⟨hx, hb, hml, hown, hts⟩ (n_isSlot l dC dI H.size h0 v1 ([.int 0, .ref a1, .ref a2, .ref a3, .ref a4, .ref a5, .int 0, .ref a7, .ref a8, .int 0, .ref a10, .ref a11, .ref a12, .ref a13, .int 0, .ref a15, .ref a16, .ref a17, .ref a18, .ref a19, .ref a20, .ref a21, .ref a22, .int 0, .ref a24, .int 0, .ref a26, .ref a27, .int 0, .ref a29, .ref a30, .ref a31, .ref a32, .ref a33, .int 0, .ref a35, .ref a36, .int 0, .ref a38, .int 0, .int 0, .int 0, .int 0, .int 0, .long 0, .int 0, .int 0, .int (-1), .int (-1), .int 0, .ref a50, .ref a51, .int 0, .int 0, .ref a54, .ref a55, .int (-1), .ref a57, .ref a58, .ref a59, .ref a60, .int 0, .int 0, .int 0, .ref a64]) ws tl k0 he0) (cwV 1 hts gn_join_514 rfl rfl rfl (by decide +kernel) ⟨Nat.le_of_ble_eq_true rfl, Nat.le_of_ble_eq_true rfl⟩) ⟨fun a U g mk q => by obtain ⟨q0, q1, qP, qK, qD⟩ := q; exact ⟨q0, q1, qP, va_K.moved (u := U) (U := U.calling g mk a) (Vm.Alike.refl U.vm) qK, qD⟩, va_recv hK hP (ci := 12) (q0 := k0) rfl he0, fun U hU hW => ⟨rfl, by rw [hU], by rw [hU]; exact hP, va_K.moved hW.alike hK, hD.weaken (fun _ _ _ _ => trivial)⟩⟩ rfl rfl hl.1 rfl (lv_room (Nat.le_of_ble_eq_true rfl)) dX12_join_7 ⟨Nat.le_of_ble_eq_true rfl, Nat.le_of_ble_eq_true rfl⟩) hS (fun q _ h => hFc q h) hFc (fun r_1 u t H1 locs ht hvm hw hB hz1 hk1 hS => ?_)
  obtain ⟨hP, hK1, hD1⟩ := hB
  rw [ht] at hP
  try dsimp only at hw
  clear hk1 hz1 hFc hD1 hK1
  generalize H1 = H at hP hS ⊢
  rcases hw with ⟨rfl, f_2⟩ | ⟨rfl, f_2⟩
  · skip
    refine lv_if_eq (tgt := 29) hx hb dX12_join_10 (by decide) (fun c_3 => ?_) (fun c_3 => ?_)
    · exact (by revert c_3; decide : False).elim
    refine lv_aload_n hx hb dX12_join_13 rfl (lv_at hl 0 rfl) ?_
    refine lv_iload_n hx hb dX12_join_14 rfl (lv_at hl 2 rfl) ?_
    have hFc := zFree hD hS hA
    refine va_calli (va_runV (As := [.int v2]) (rest := []) ⟨hx, hb, hml, hown, hts⟩ (n_isSlot l dC dI H.size h0 v2 ([.int 0, .ref a1, .ref a2, .ref a3, .ref a4, .ref a5, .int 0, .ref a7, .ref a8, .int 0, .ref a10, .ref a11, .ref a12, .ref a13, .int 0, .ref a15, .ref a16, .ref a17, .ref a18, .ref a19, .ref a20, .ref a21, .ref a22, .int 0, .ref a24, .int 0, .ref a26, .ref a27, .int 0, .ref a29, .ref a30, .ref a31, .ref a32, .ref a33, .int 0, .ref a35, .ref a36, .int 0, .ref a38, .int 0, .int 0, .int 0, .int 0, .int 0, .long 0, .int 0, .int 0, .int (-1), .int (-1), .int 0, .ref a50, .ref a51, .int 0, .int 0, .ref a54, .ref a55, .int (-1), .ref a57, .ref a58, .ref a59, .ref a60, .int 0, .int 0, .int 0, .ref a64]) ws tl k0 he0) (cwV 1 hts gn_join_514 rfl rfl rfl (by decide +kernel) ⟨Nat.le_of_ble_eq_true rfl, Nat.le_of_ble_eq_true rfl⟩) ⟨fun a U g mk q => by obtain ⟨q0, q1, qP, qK, qD⟩ := q; exact ⟨q0, q1, qP, va_K.moved (u := U) (U := U.calling g mk a) (Vm.Alike.refl U.vm) qK, qD⟩, va_recv hK hP (ci := 12) (q0 := k0) rfl he0, fun U hU hW => ⟨rfl, by rw [hU], by rw [hU]; exact hP, va_K.moved hW.alike hK, hD.weaken (fun _ _ _ _ => trivial)⟩⟩ rfl rfl hl.1 rfl (lv_room (Nat.le_of_ble_eq_true rfl)) dX12_join_15 ⟨Nat.le_of_ble_eq_true rfl, Nat.le_of_ble_eq_true rfl⟩) hS (fun q _ h => hFc q h) hFc (fun r_4 u t H1 locs ht hvm hw hB hz1 hk1 hS => ?_)
    obtain ⟨hP, hK1, hD1⟩ := hB
    rw [ht] at hP
    try dsimp only at hw
    clear hk1 hz1 hFc hD1 hK1
    generalize H1 = H at hP hS ⊢
    rcases hw with ⟨rfl, f_5⟩ | ⟨rfl, f_5⟩
    · skip
      refine lv_if_eq (tgt := 29) hx hb dX12_join_18 (by decide) (fun c_6 => ?_) (fun c_6 => ?_)
      · exact (by revert c_6; decide : False).elim
      refine lv_aload_n hx hb dX12_join_21 rfl (lv_at hl 0 rfl) ?_
      refine lv_iload_n hx hb dX12_join_22 rfl (lv_at hl 3 rfl) ?_
      have hFc := zFree hD hS hA
      refine va_calli (va_runV (As := [.int v3]) (rest := []) ⟨hx, hb, hml, hown, hts⟩ (n_isSlot l dC dI H.size h0 v3 ([.int 0, .ref a1, .ref a2, .ref a3, .ref a4, .ref a5, .int 0, .ref a7, .ref a8, .int 0, .ref a10, .ref a11, .ref a12, .ref a13, .int 0, .ref a15, .ref a16, .ref a17, .ref a18, .ref a19, .ref a20, .ref a21, .ref a22, .int 0, .ref a24, .int 0, .ref a26, .ref a27, .int 0, .ref a29, .ref a30, .ref a31, .ref a32, .ref a33, .int 0, .ref a35, .ref a36, .int 0, .ref a38, .int 0, .int 0, .int 0, .int 0, .int 0, .long 0, .int 0, .int 0, .int (-1), .int (-1), .int 0, .ref a50, .ref a51, .int 0, .int 0, .ref a54, .ref a55, .int (-1), .ref a57, .ref a58, .ref a59, .ref a60, .int 0, .int 0, .int 0, .ref a64]) ws tl k0 he0) (cwV 1 hts gn_join_514 rfl rfl rfl (by decide +kernel) ⟨Nat.le_of_ble_eq_true rfl, Nat.le_of_ble_eq_true rfl⟩) ⟨fun a U g mk q => by obtain ⟨q0, q1, qP, qK, qD⟩ := q; exact ⟨q0, q1, qP, va_K.moved (u := U) (U := U.calling g mk a) (Vm.Alike.refl U.vm) qK, qD⟩, va_recv hK hP (ci := 12) (q0 := k0) rfl he0, fun U hU hW => ⟨rfl, by rw [hU], by rw [hU]; exact hP, va_K.moved hW.alike hK, hD.weaken (fun _ _ _ _ => trivial)⟩⟩ rfl rfl hl.1 rfl (lv_room (Nat.le_of_ble_eq_true rfl)) dX12_join_23 ⟨Nat.le_of_ble_eq_true rfl, Nat.le_of_ble_eq_true rfl⟩) hS (fun q _ h => hFc q h) hFc (fun r_7 u t H1 locs ht hvm hw hB hz1 hk1 hS => ?_)
      obtain ⟨hP, hK1, hD1⟩ := hB
      rw [ht] at hP
      try dsimp only at hw
      clear hk1 hz1 hFc hD1 hK1
      generalize H1 = H at hP hS ⊢
      rcases hw with ⟨rfl, f_8⟩ | ⟨rfl, f_8⟩
      · skip
        refine lv_if_ne (tgt := 31) hx hb dX12_join_26 (by decide) (fun c_9 => ?_) (fun c_9 => ?_)
        rotate_left
        · exact (by revert c_9; decide : False).elim
        refine lv_aload_n hx hb dX12_join_31 rfl (lv_at hl 0 rfl) ?_
        have hFc := zFree hD hS hA
        refine va_callv (va_runV (As := []) (rest := []) ⟨hx, hb, hml, hown, hts⟩ (n_clearsHeap l dC dI H.size h0 a1 a2 a3 a4 a5 a7 a8 a10 a11 a12 a13 a15 a16 a17 a18 a19 a20 a21 a22 a24 a26 a27 a29 a30 a31 a32 a33 a35 a36 a38 a50 a51 a54 a55 a57 a58 a59 a60 a64 ws tl k0 he0) (cwV 0 hts gn_join_526 rfl rfl rfl (by decide +kernel) ⟨Nat.le_of_ble_eq_true rfl, Nat.le_of_ble_eq_true rfl⟩) ⟨fun a U g mk q => by obtain ⟨q0, q1, qP, qK, qD⟩ := q; exact ⟨q0, q1, qP, va_K.moved (u := U) (U := U.calling g mk a) (Vm.Alike.refl U.vm) qK, qD⟩, va_recv hK hP (ci := 12) (q0 := k0) rfl he0, fun U hU hW => ⟨rfl, by rw [hU], by rw [hU]; exact hP, va_K.moved hW.alike hK, hD.weaken (fun _ _ _ _ => trivial)⟩⟩ rfl rfl hl.1 rfl (lv_room (Nat.le_of_ble_eq_true rfl)) dX12_join_32 ⟨Nat.le_of_ble_eq_true rfl, Nat.le_of_ble_eq_true rfl⟩) hS (fun q _ h => hFc q h) hFc (fun u t H1 locs ht hvm hw hB hz1 hk1 hS => ?_)
        obtain ⟨hP, hK1, hD1⟩ := hB
        rw [ht] at hP
        try dsimp only at hw
        clear hk1 hz1 hFc hD1 hK1
        generalize H1 = H at hP hS ⊢
        refine lv_aload_n hx hb dX12_join_35 rfl (lv_at hl 0 rfl) ?_
        refine lv_iload_n hx hb dX12_join_36 rfl (lv_at hl 1 rfl) ?_
        have hFc := zFree hD hS hA
        refine va_calli (va_runV (As := [.int v1]) (rest := []) ⟨hx, hb, hml, hown, hts⟩ (n_lays l dC dI H.size h0 v1 a1 a2 a3 a4 a5 a7 a8 a10 a11 a12 a13 a15 a16 a17 a18 a19 a20 a21 a22 a24 a26 a27 a29 a30 a31 a32 a33 a35 a36 a38 a50 a51 a54 a55 a57 a58 a59 a60 a64 cI ws tl k0 he0 k1 he1 t0 ht0 f_2) (cwV 1 hts gn_join_529 rfl rfl rfl (by decide +kernel) ⟨Nat.le_of_ble_eq_true rfl, Nat.le_of_ble_eq_true rfl⟩) ⟨fun a U g mk q => by obtain ⟨q0, q1, qP, qK, qD⟩ := q; exact ⟨q0, q1, qP, va_K.moved (u := U) (U := U.calling g mk a) (Vm.Alike.refl U.vm) qK, qD⟩, va_recv hK hP (ci := 12) (q0 := k0) rfl he0, fun U hU hW => ⟨rfl, by rw [hU], by rw [hU]; exact hP, va_K.moved hW.alike hK, hD.weaken (fun _ _ _ _ => trivial)⟩⟩ rfl rfl hl.1 rfl (lv_room (Nat.le_of_ble_eq_true rfl)) dX12_join_37 ⟨Nat.le_of_ble_eq_true rfl, Nat.le_of_ble_eq_true rfl⟩) hS (fun q _ h => hFc q h) hFc (fun r_11 u t H1 locs ht hvm hw hB hz1 hk1 hS => ?_)
        obtain ⟨hP, hK1, hD1⟩ := hB
        rw [ht] at hP
        try dsimp only at hw
        clear hk1 hz1 hFc hD1 hK1
        generalize H1 = H at hP hS ⊢
        obtain rfl := hw
        refine lv_istore (lv' := [(4, .int 0), (0, .ref h0), (1, .int v1), (2, .int v2), (3, .int v3)]) hx hb dX12_join_40 hl (by decide) rfl (fun ls hl => ?_)
        refine lv_aload_n hx hb dX12_join_42 rfl (lv_at hl 1 rfl) ?_
        refine lv_iload_n hx hb dX12_join_43 rfl (lv_at hl 3 rfl) ?_
        have hFc := zFree hD hS hA
        refine va_calli (va_runV (As := [.int v2]) (rest := []) ⟨hx, hb, hml, hown, hts⟩ (n_lays l dC dI H.size h0 v2 a1 a2 a3 a4 a5 a7 a8 a10 a11 a12 a13 a15 a16 a17 a18 a19 a20 a21 a22 a24 a26 a27 a29 a30 a31 a32 a33 a35 a36 a38 a50 a51 a54 a55 a57 a58 a59 a60 a64 cI ws tl k0 he0 k1 he1 t0 ht0 f_5) (cwV 1 hts gn_join_529 rfl rfl rfl (by decide +kernel) ⟨Nat.le_of_ble_eq_true rfl, Nat.le_of_ble_eq_true rfl⟩) ⟨fun a U g mk q => by obtain ⟨q0, q1, qP, qK, qD⟩ := q; exact ⟨q0, q1, qP, va_K.moved (u := U) (U := U.calling g mk a) (Vm.Alike.refl U.vm) qK, qD⟩, va_recv hK hP (ci := 12) (q0 := k0) rfl he0, fun U hU hW => ⟨rfl, by rw [hU], by rw [hU]; exact hP, va_K.moved hW.alike hK, hD.weaken (fun _ _ _ _ => trivial)⟩⟩ rfl rfl hl.1 rfl (lv_room (Nat.le_of_ble_eq_true rfl)) dX12_join_44 ⟨Nat.le_of_ble_eq_true rfl, Nat.le_of_ble_eq_true rfl⟩) hS (fun q _ h => hFc q h) hFc (fun r_12 u t H1 locs ht hvm hw hB hz1 hk1 hS => ?_)
        obtain ⟨hP, hK1, hD1⟩ := hB
        rw [ht] at hP
        try dsimp only at hw
        clear hk1 hz1 hFc hD1 hK1
        generalize H1 = H at hP hS ⊢
        obtain rfl := hw
        refine lv_iload hx hb dX12_join_47 (lv_at hl 0 rfl) ?_
        refine lv_icmp_lt (tgt := 62) hx hb dX12_join_49 (by decide) (fun c_13 => ?_) (fun c_13 => ?_)
        · exact (by revert c_13; decide : False).elim
        refine lv_aload_n hx hb dX12_join_52 rfl (lv_at hl 1 rfl) ?_
        refine lv_iload hx hb dX12_join_53 (lv_at hl 0 rfl) ?_
        refine lv_iload_n hx hb dX12_join_55 rfl (lv_at hl 4 rfl) ?_
        have hFc := zFree hD hS hA
        refine va_calli (va_runV (As := [.int 0, .int v3]) (rest := []) ⟨hx, hb, hml, hown, hts⟩ (n_takes l dC dI H.size h0 v3 a1 a2 a3 a4 a5 a7 a8 a10 a11 a12 a13 a15 a16 a17 a18 a19 a20 a21 a22 a24 a26 a27 a29 a30 a31 a32 a33 a35 a36 a38 a50 a51 a54 a55 a57 a58 a59 a60 a64 cI ws tl k0 he0 k1 he1 t0 ht0 f_8) (cwV 2 hts gn_join_535 rfl rfl rfl (by decide +kernel) ⟨Nat.le_of_ble_eq_true rfl, Nat.le_of_ble_eq_true rfl⟩) ⟨fun a U g mk q => by obtain ⟨q0, q1, qP, qK, qD⟩ := q; exact ⟨q0, q1, qP, va_K.moved (u := U) (U := U.calling g mk a) (Vm.Alike.refl U.vm) qK, qD⟩, va_recv hK hP (ci := 12) (q0 := k0) rfl he0, fun U hU hW => ⟨rfl, by rw [hU], by rw [hU]; exact hP, va_K.moved hW.alike hK, hD.weaken (fun _ _ _ _ => trivial)⟩⟩ rfl rfl hl.1 rfl (lv_room (Nat.le_of_ble_eq_true rfl)) dX12_join_56 ⟨Nat.le_of_ble_eq_true rfl, Nat.le_of_ble_eq_true rfl⟩) hS (fun q _ h => hFc q h) hFc (fun r_14 u t H1 locs ht hvm hw hB hz1 hk1 hS => ?_)
        obtain ⟨hP, hK1, hD1⟩ := hB
        rw [ht] at hP
        try dsimp only at hw
        clear hk1 hz1 hFc hD1 hK1
        generalize H1 = H at hP hS ⊢
        obtain rfl := hw
        refine lv_goto (tgt := 63) hx hb dX12_join_59 (by decide) ?_
        have hP9 := hP
        have hD9 := hD
        have hK9 := hK
        exact W.iret (v := 0) hx hb hr (fun t ht hW => ⟨⟨0, (), rfl, (by simp [sp_join, f_2, f_5, f_8]), by rw [ht]; exact hP9, va_K.moved hW.alike hK9, hD9⟩, hS.F ht⟩) hS.2.2 dX12_join_63
      · skip
        refine lv_if_ne (tgt := 31) hx hb dX12_join_26 (by decide) (fun c_15 => ?_) (fun c_15 => ?_)
        · exact (by revert c_15; decide : False).elim
        refine lv_iconst (v := (-1)) hx hb dX12_join_29 (by decide) ?_
        have hP9 := hP
        have hD9 := hD
        have hK9 := hK
        exact W.iret (v := (-1)) hx hb hr (fun t ht hW => ⟨⟨(-1), (), rfl, (by simp [sp_join, f_2, f_5, f_8]), by rw [ht]; exact hP9, va_K.moved hW.alike hK9, hD9⟩, hS.F ht⟩) hS.2.2 dX12_join_30
    · skip
      refine lv_if_eq (tgt := 29) hx hb dX12_join_18 (by decide) (fun c_16 => ?_) (fun c_16 => ?_)
      rotate_left
      · exact (by revert c_16; decide : False).elim
      refine lv_iconst (v := (-1)) hx hb dX12_join_29 (by decide) ?_
      have hP9 := hP
      have hD9 := hD
      have hK9 := hK
      exact W.iret (v := (-1)) hx hb hr (fun t ht hW => ⟨⟨(-1), (), rfl, (by simp [sp_join, f_2, f_5]), by rw [ht]; exact hP9, va_K.moved hW.alike hK9, hD9⟩, hS.F ht⟩) hS.2.2 dX12_join_30
  · skip
    refine lv_if_eq (tgt := 29) hx hb dX12_join_10 (by decide) (fun c_17 => ?_) (fun c_17 => ?_)
    rotate_left
    · exact (by revert c_17; decide : False).elim
    refine lv_iconst (v := (-1)) hx hb dX12_join_29 (by decide) ?_
    have hP9 := hP
    have hD9 := hD
    have hK9 := hK
    exact W.iret (v := (-1)) hx hb hr (fun t ht hW => ⟨⟨(-1), (), rfl, (by simp [sp_join, f_2]), by rw [ht]; exact hP9, va_K.moved hW.alike hK9, hD9⟩, hS.F ht⟩) hS.2.2 dX12_join_30
def wn_cut : List Cond := .code yX12_cut cX12_cut 7 (some .int) :: ([.fieldLink RX12 142 "PutBackModel" "told" "I", .methodLink RX12 514 yX12_isSlot, .instanceMethod yX12_isSlot, .selects RX12 yX12_isSlot yX12_isSlot, .initialized RX12, .code yX12_isSlot cX12_isSlot 2 (some .boolean), .constantLong RX12 512 (7), .methodLink RX12 153 yX12_isIn, .instanceMethod yX12_isIn, .selects RX12 yX12_isIn yX12_isIn, .code yX12_isIn cX12_isIn 7 (some .boolean), .fieldLink RX12 115 "PutBackModel" "slotLong" "[I", .methodLink RX12 526 yX12_clearsHeap, .instanceMethod yX12_clearsHeap, .selects RX12 yX12_clearsHeap yX12_clearsHeap, .code yX12_clearsHeap cX12_clearsHeap 1 none, .fieldLink RX12 222 "PutBackModel" "top" "I", .fieldLink RX12 291 "PutBackModel" "partsTop" "I", .fieldLink RX12 306 "PutBackModel" "outsTop" "I", .methodLink RX12 529 yX12_lays, .instanceMethod yX12_lays, .selects RX12 yX12_lays yX12_lays, .code yX12_lays cX12_lays 4 (some .int), .methodLink RX12 235 yX12_putsAll, .instanceMethod yX12_putsAll, .selects RX12 yX12_putsAll yX12_putsAll, .code yX12_putsAll cX12_putsAll 4 none, .methodLink RX12 535 yX12_takes, .instanceMethod yX12_takes, .selects RX12 yX12_takes yX12_takes, .code yX12_takes cX12_takes 5 (some .int)] ++ wsX120)
theorem in_cut_RX12 : ∀ w ∈ u_ws RX12 TX12 65, w ∈ wn_cut := fun w h => List.mem_cons_of_mem _ (List.mem_append_right _ h)
theorem gn_cut_514g : GoodIn wn_cut wn_isSlot := goodIn_r _ [6, 7, 8, 9, 10, 5, 11] (by decide +kernel) (by decide +kernel)
theorem gn_cut_514 : GoodIn wn_cut (wsV RX12 514 RX12 yX12_isSlot wn_isSlot) := goodIn_app (goodIn_of _ (by decide +kernel)) gn_cut_514g
theorem gn_cut_526g : GoodIn wn_cut wn_clearsHeap := goodIn_r _ [16, 17, 18, 19, 32, 33, 34, 35, 36, 37, 38, 39, 40, 41, 42, 43, 44, 45, 46, 47, 48, 49, 50, 51, 52, 53, 54, 55, 56, 57, 58, 59, 60, 61, 62, 63, 64, 65, 66, 67, 68, 69, 70, 71, 72, 73, 74, 75, 76, 77, 78, 79, 80, 81, 82, 83, 84, 85, 86, 87, 88, 89, 90, 91, 92, 93, 94, 95, 96] (by decide +kernel) (by decide +kernel)
theorem gn_cut_526 : GoodIn wn_cut (wsV RX12 526 RX12 yX12_clearsHeap wn_clearsHeap) := goodIn_app (goodIn_of _ (by decide +kernel)) gn_cut_526g
theorem gn_cut_529g : GoodIn wn_cut wn_lays := goodIn_r _ [23, 17, 12, 32, 33, 34, 35, 36, 37, 38, 39, 40, 41, 42, 43, 44, 45, 46, 47, 48, 49, 50, 51, 52, 53, 54, 55, 56, 57, 58, 59, 60, 61, 62, 63, 64, 65, 66, 67, 68, 69, 70, 71, 72, 73, 74, 75, 76, 77, 78, 79, 80, 81, 82, 83, 84, 85, 86, 87, 88, 89, 90, 91, 92, 93, 94, 95, 96] (by decide +kernel) (by decide +kernel)
theorem gn_cut_529 : GoodIn wn_cut (wsV RX12 529 RX12 yX12_lays wn_lays) := goodIn_app (goodIn_of _ (by decide +kernel)) gn_cut_529g
theorem gn_cut_235g : GoodIn wn_cut wn_putsAll := goodIn_r _ [27] (by decide +kernel) (by decide +kernel)
theorem gn_cut_235 : GoodIn wn_cut (wsV RX12 235 RX12 yX12_putsAll wn_putsAll) := goodIn_app (goodIn_of _ (by decide +kernel)) gn_cut_235g
theorem gn_cut_535g : GoodIn wn_cut wn_takes := goodIn_r _ [31, 17, 12, 32, 33, 34, 35, 36, 37, 38, 39, 40, 41, 42, 43, 44, 45, 46, 47, 48, 49, 50, 51, 52, 53, 54, 55, 56, 57, 58, 59, 60, 61, 62, 63, 64, 65, 66, 67, 68, 69, 70, 71, 72, 73, 74, 75, 76, 77, 78, 79, 80, 81, 82, 83, 84, 85, 86, 87, 88, 89, 90, 91, 92, 93, 94, 95, 96] (by decide +kernel) (by decide +kernel)
theorem gn_cut_535 : GoodIn wn_cut (wsV RX12 535 RX12 yX12_takes wn_takes) := goodIn_app (goodIn_of _ (by decide +kernel)) gn_cut_535g
set_option maxHeartbeats 4000000 in
set_option maxRecDepth 100000 in
theorem n_cut (l : Launch) (dC : Nat → ClassId) (dI : Nat → Nat → Nat) (sz : Nat) (h0 : Nat) (v1 : Int32) (v2 : Int32) (v3 : Int32) (v4 : Int32) (a1 : Nat) (a2 : Nat) (a3 : Nat) (a4 : Nat) (a5 : Nat) (a7 : Nat) (a8 : Nat) (a10 : Nat) (a11 : Nat) (a12 : Nat) (a13 : Nat) (a15 : Nat) (a16 : Nat) (a17 : Nat) (a18 : Nat) (a19 : Nat) (a20 : Nat) (a21 : Nat) (a22 : Nat) (a24 : Nat) (a26 : Nat) (a27 : Nat) (a29 : Nat) (a30 : Nat) (a31 : Nat) (a32 : Nat) (a33 : Nat) (a35 : Nat) (a36 : Nat) (a38 : Nat) (a50 : Nat) (a51 : Nat) (a54 : Nat) (a55 : Nat) (a57 : Nat) (a58 : Nat) (a59 : Nat) (a60 : Nat) (a64 : Nat) (cI : ClassId) (ws : va_W) (tl : List (ClassId × FieldType)) (k0 : Nat) (he0 : ws[k0]? = some (h0, .inr (12, [.int 0, .ref a1, .ref a2, .ref a3, .ref a4, .ref a5, .int 0, .ref a7, .ref a8, .int 0, .ref a10, .ref a11, .ref a12, .ref a13, .int 0, .ref a15, .ref a16, .ref a17, .ref a18, .ref a19, .ref a20, .ref a21, .ref a22, .int 0, .ref a24, .int 0, .ref a26, .ref a27, .int 0, .ref a29, .ref a30, .ref a31, .ref a32, .ref a33, .int 0, .ref a35, .ref a36, .int 0, .ref a38, .int 0, .int 0, .int 0, .int 0, .int 0, .long 0, .int 0, .int 0, .int (-1), .int (-1), .int 0, .ref a50, .ref a51, .int 0, .int 0, .ref a54, .ref a55, .int (-1), .ref a57, .ref a58, .ref a59, .ref a60, .int 0, .int 0, .int 0, .ref a64]))) (k1 : Nat) (he1 : ws[k1]? = some (a51, .inl (cI, 8, .inl (fun _ => 0)))) (t0 : Nat) (ht0 : tl[t0]? = some (cI, .int))  : Met l yX12_cut wn_cut ({ frames := 2, cells := 0, slots := 0, locals := 47 } : Room) (va_Pc [.ref h0, .int v1, .int v2, .int v3, .int v4] (fun U => U.heap.size = sz ∧ va_P (dC, dI) cls ws U.heap ∧ va_K (dC, dI) cls tl U ∧ va_D (fun _ => True) ws)) (va_Qi (fun (r : Int32) (_ : Unit) => r = sp_cut v1 v2 v3 v4) (fun (_ : Unit) t => va_P (dC, dI) cls ws t.heap ∧ va_K (dC, dI) cls tl t ∧ va_D (va_A ws sz) ws) (va_A ws sz)) 0 0 (va_A ws sz) := by
  refine Met.ofW (cc := cX12_cut) (maxL := 7) (ret := (some .int)) (by decide) rfl ?_
  intro p e s m args below meth c s₁ B hml hv
  obtain ⟨rfl, hsz, hP, hK, hD0⟩ := hv
  have hx := B.exec
  have hb := B.bytes
  have hr := B.returns
  have hts := atoms_spec (ws := wn_cut) B.pre
  have hown : s.vm.findClass RX12 = some m.cls := findClass_of_methodNamed B.named
  have hlocks := B.notSynchronized
  subst hsz
  have hD := hD0.self (sz := s.heap.size)
  generalize hAe : va_A ws s.heap.size = A at hD ⊢
  have hA : ∀ q : Nat, s.heap.size ≤ q → A q := fun q h => by rw [← hAe]; exact Or.inr h
  have hP : va_P (dC, dI) cls ws s.heap := hP
  have hl := lv_entry ([.ref h0, .int v1, .int v2, .int v3, .int v4]) (n := 7) (Nat.le_of_ble_eq_true rfl)
  rw [lg_entry_eq]
  generalize (lg_sl ([.ref h0, .int v1, .int v2, .int v3, .int v4]) ++ List.replicate (7 - (lg_sl ([.ref h0, .int v1, .int v2, .int v3, .int v4])).length) Slot.unset).toArray = ls at hl ⊢
  have hl : lv_has ls 7 [(0, .ref h0), (1, .int v1), (2, .int v2), (3, .int v3), (4, .int v4)] := hl
  obtain ⟨H, hH⟩ : ∃ H : Heap, s.heap = H := ⟨_, rfl⟩
  rw [hH] at hP ⊢
  have hS : va_S A s.heap H [] := by rw [← hH]; exact va_S.rf
  refine lv_aload_n hx hb dX12_cut_0 rfl (lv_at hl 0 rfl) ?_
  refine lv_iconst (v := 0) hx hb dX12_cut_1 (by decide) ?_
  refine va_put (D := (dC, dI)) (ci := 12) (v := .int 0) (ty := .int) (C := RX12) (T := TX12) (N := 65) hx hb hts in_cut_RX12 tyX12 tyX12_ok nmX12 hown hK hP hD hS k0 he0 rfl 0 (by decide) (hts (.fieldLink RX12 142 "PutBackModel" "told" "I") (by decide +kernel)) (fun _ h9 => h9) rfl (by decide +kernel) rfl rfl (Nat.le_of_ble_eq_true rfl) dX12_cut_2 (fun H locs hP _ hS => ?_)
  have hP : va_P (dC, dI) cls ws H := by rw [← zSame he0]; exact hP
  refine lv_aload_n hx hb dX12_cut_5 rfl (lv_at hl 0 rfl) ?_
  refine lv_iload_n hx hb dX12_cut_6 rfl (lv_at hl 1 rfl) ?_
  have hFc := zFree hD hS hA
  refine va_calli (va_runV (As := [.int v1]) (rest := []) ⟨hx, hb, hml, hown, hts⟩ (n_isSlot l dC dI H.size h0 v1 ([.int 0, .ref a1, .ref a2, .ref a3, .ref a4, .ref a5, .int 0, .ref a7, .ref a8, .int 0, .ref a10, .ref a11, .ref a12, .ref a13, .int 0, .ref a15, .ref a16, .ref a17, .ref a18, .ref a19, .ref a20, .ref a21, .ref a22, .int 0, .ref a24, .int 0, .ref a26, .ref a27, .int 0, .ref a29, .ref a30, .ref a31, .ref a32, .ref a33, .int 0, .ref a35, .ref a36, .int 0, .ref a38, .int 0, .int 0, .int 0, .int 0, .int 0, .long 0, .int 0, .int 0, .int (-1), .int (-1), .int 0, .ref a50, .ref a51, .int 0, .int 0, .ref a54, .ref a55, .int (-1), .ref a57, .ref a58, .ref a59, .ref a60, .int 0, .int 0, .int 0, .ref a64]) ws tl k0 he0) (cwV 1 hts gn_cut_514 rfl rfl rfl (by decide +kernel) ⟨Nat.le_of_ble_eq_true rfl, Nat.le_of_ble_eq_true rfl⟩) ⟨fun a U g mk q => by obtain ⟨q0, q1, qP, qK, qD⟩ := q; exact ⟨q0, q1, qP, va_K.moved (u := U) (U := U.calling g mk a) (Vm.Alike.refl U.vm) qK, qD⟩, va_recv hK hP (ci := 12) (q0 := k0) rfl he0, fun U hU hW => ⟨rfl, by rw [hU], by rw [hU]; exact hP, va_K.moved hW.alike hK, hD.weaken (fun _ _ _ _ => trivial)⟩⟩ rfl rfl hl.1 rfl (lv_room (Nat.le_of_ble_eq_true rfl)) dX12_cut_7 ⟨Nat.le_of_ble_eq_true rfl, Nat.le_of_ble_eq_true rfl⟩) hS (fun q _ h => hFc q h) hFc (fun r_1 u t H1 locs ht hvm hw hB hz1 hk1 hS => ?_)
  obtain ⟨hP, hK1, hD1⟩ := hB
  rw [ht] at hP
  try dsimp only at hw
  clear hk1 hz1 hFc hD1 hK1
  generalize H1 = H at hP hS ⊢
  rcases hw with ⟨rfl, f_2⟩ | ⟨rfl, f_2⟩
  · skip
    refine lv_if_eq (tgt := 52) hx hb dX12_cut_10 (by decide) (fun c_3 => ?_) (fun c_3 => ?_)
    · exact (by revert c_3; decide : False).elim
    refine lv_aload_n hx hb dX12_cut_13 rfl (lv_at hl 0 rfl) ?_
    refine lv_iload hx hb dX12_cut_14 (lv_at hl 4 rfl) ?_
    have hFc := zFree hD hS hA
    refine va_calli (va_runV (As := [.int v4]) (rest := []) ⟨hx, hb, hml, hown, hts⟩ (n_isSlot l dC dI H.size h0 v4 ([.int 0, .ref a1, .ref a2, .ref a3, .ref a4, .ref a5, .int 0, .ref a7, .ref a8, .int 0, .ref a10, .ref a11, .ref a12, .ref a13, .int 0, .ref a15, .ref a16, .ref a17, .ref a18, .ref a19, .ref a20, .ref a21, .ref a22, .int 0, .ref a24, .int 0, .ref a26, .ref a27, .int 0, .ref a29, .ref a30, .ref a31, .ref a32, .ref a33, .int 0, .ref a35, .ref a36, .int 0, .ref a38, .int 0, .int 0, .int 0, .int 0, .int 0, .long 0, .int 0, .int 0, .int (-1), .int (-1), .int 0, .ref a50, .ref a51, .int 0, .int 0, .ref a54, .ref a55, .int (-1), .ref a57, .ref a58, .ref a59, .ref a60, .int 0, .int 0, .int 0, .ref a64]) ws tl k0 he0) (cwV 1 hts gn_cut_514 rfl rfl rfl (by decide +kernel) ⟨Nat.le_of_ble_eq_true rfl, Nat.le_of_ble_eq_true rfl⟩) ⟨fun a U g mk q => by obtain ⟨q0, q1, qP, qK, qD⟩ := q; exact ⟨q0, q1, qP, va_K.moved (u := U) (U := U.calling g mk a) (Vm.Alike.refl U.vm) qK, qD⟩, va_recv hK hP (ci := 12) (q0 := k0) rfl he0, fun U hU hW => ⟨rfl, by rw [hU], by rw [hU]; exact hP, va_K.moved hW.alike hK, hD.weaken (fun _ _ _ _ => trivial)⟩⟩ rfl rfl hl.1 rfl (lv_room (Nat.le_of_ble_eq_true rfl)) dX12_cut_16 ⟨Nat.le_of_ble_eq_true rfl, Nat.le_of_ble_eq_true rfl⟩) hS (fun q _ h => hFc q h) hFc (fun r_4 u t H1 locs ht hvm hw hB hz1 hk1 hS => ?_)
    obtain ⟨hP, hK1, hD1⟩ := hB
    rw [ht] at hP
    try dsimp only at hw
    clear hk1 hz1 hFc hD1 hK1
    generalize H1 = H at hP hS ⊢
    rcases hw with ⟨rfl, f_5⟩ | ⟨rfl, f_5⟩
    · skip
      refine lv_if_eq (tgt := 52) hx hb dX12_cut_19 (by decide) (fun c_6 => ?_) (fun c_6 => ?_)
      · exact (by revert c_6; decide : False).elim
      refine lv_iload_n hx hb dX12_cut_22 rfl (lv_at hl 2 rfl) ?_
      refine lv_if_lt (tgt := 52) hx hb dX12_cut_23 (by decide) (fun c_7 => ?_) (fun c_7 => ?_)
      · skip
        refine lv_iconst (v := (-1)) hx hb dX12_cut_52 (by decide) ?_
        have hP9 := hP
        have hD9 := hD
        have hK9 := hK
        exact W.iret (v := (-1)) hx hb hr (fun t ht hW => ⟨⟨(-1), (), rfl, zCut (fun h1 h2 h3 h4 => by subst h3; subst h4; revert c_7; decide), by rw [ht]; exact hP9, va_K.moved hW.alike hK9, hD9⟩, hS.F ht⟩) hS.2.2 dX12_cut_53
      · skip
        refine lv_iload_n hx hb dX12_cut_26 rfl (lv_at hl 3 rfl) ?_
        refine lv_if_lt (tgt := 52) hx hb dX12_cut_27 (by decide) (fun c_8 => ?_) (fun c_8 => ?_)
        · skip
          refine lv_iconst (v := (-1)) hx hb dX12_cut_52 (by decide) ?_
          have hP9 := hP
          have hD9 := hD
          have hK9 := hK
          exact W.iret (v := (-1)) hx hb hr (fun t ht hW => ⟨⟨(-1), (), rfl, zCut (fun h1 h2 h3 h4 => by subst h3; subst h4; revert c_8; decide), by rw [ht]; exact hP9, va_K.moved hW.alike hK9, hD9⟩, hS.F ht⟩) hS.2.2 dX12_cut_53
        · skip
          refine lv_iload_n hx hb dX12_cut_30 rfl (lv_at hl 2 rfl) ?_
          refine lv_aload_n hx hb dX12_cut_31 rfl (lv_at hl 0 rfl) ?_
          refine va_get (D := (dC, dI)) (ci := 12) (v := .ref a51) (C := RX12) (T := TX12) (N := 65) hx hb hts in_cut_RX12 hown hK hP k0 he0 rfl 51 (by decide) (hts (.fieldLink RX12 115 "PutBackModel" "slotLong" "[I") (by decide +kernel)) (fun _ h9 => h9) rfl dX12_cut_32 ?_
          refine lv_iload_n hx hb dX12_cut_35 rfl (lv_at hl 1 rfl) ?_
          refine va_iald hx hb hK hP k1 t0 he1 ht0 (zVp f_2) dX12_cut_36 ?_
          refine lv_topi (fun z_9 ez_9 => ?_)
          obtain rfl : z_9 = (0 : Int32) := ez_9
          refine lv_icmp_gt (tgt := 52) hx hb dX12_cut_37 (by decide) (fun c_10 => ?_) (fun c_10 => ?_)
          · skip
            refine lv_iconst (v := (-1)) hx hb dX12_cut_52 (by decide) ?_
            have hP9 := hP
            have hD9 := hD
            have hK9 := hK
            exact W.iret (v := (-1)) hx hb hr (fun t ht hW => ⟨⟨(-1), (), rfl, zCut (fun h1 h2 h3 h4 => by subst h3; subst h4; revert c_10; decide), by rw [ht]; exact hP9, va_K.moved hW.alike hK9, hD9⟩, hS.F ht⟩) hS.2.2 dX12_cut_53
          · skip
            refine lv_iload_n hx hb dX12_cut_40 rfl (lv_at hl 3 rfl) ?_
            refine lv_aload_n hx hb dX12_cut_41 rfl (lv_at hl 0 rfl) ?_
            refine va_get (D := (dC, dI)) (ci := 12) (v := .ref a51) (C := RX12) (T := TX12) (N := 65) hx hb hts in_cut_RX12 hown hK hP k0 he0 rfl 51 (by decide) (hts (.fieldLink RX12 115 "PutBackModel" "slotLong" "[I") (by decide +kernel)) (fun _ h9 => h9) rfl dX12_cut_42 ?_
            refine lv_iload_n hx hb dX12_cut_45 rfl (lv_at hl 1 rfl) ?_
            refine va_iald hx hb hK hP k1 t0 he1 ht0 (zVp f_2) dX12_cut_46 ?_
            refine lv_topi (fun z_11 ez_11 => ?_)
            obtain rfl : z_11 = (0 : Int32) := ez_11
            refine lv_iload_n hx hb dX12_cut_47 rfl (lv_at hl 2 rfl) ?_
            refine lv_isub hx hb dX12_cut_48 ?_
            refine lv_icmp_le (tgt := 54) hx hb dX12_cut_49 (by decide) (fun c_12 => ?_) (fun c_12 => ?_)
            · skip
              obtain rfl : v2 = 0 := zEq c_7 c_10
              obtain rfl : v3 = 0 := zEq c_8 (Int32.not_lt.mpr c_12)
              refine lv_aload_n hx hb dX12_cut_54 rfl (lv_at hl 0 rfl) ?_
              have hFc := zFree hD hS hA
              refine va_callv (va_runV (As := []) (rest := []) ⟨hx, hb, hml, hown, hts⟩ (n_clearsHeap l dC dI H.size h0 a1 a2 a3 a4 a5 a7 a8 a10 a11 a12 a13 a15 a16 a17 a18 a19 a20 a21 a22 a24 a26 a27 a29 a30 a31 a32 a33 a35 a36 a38 a50 a51 a54 a55 a57 a58 a59 a60 a64 ws tl k0 he0) (cwV 0 hts gn_cut_526 rfl rfl rfl (by decide +kernel) ⟨Nat.le_of_ble_eq_true rfl, Nat.le_of_ble_eq_true rfl⟩) ⟨fun a U g mk q => by obtain ⟨q0, q1, qP, qK, qD⟩ := q; exact ⟨q0, q1, qP, va_K.moved (u := U) (U := U.calling g mk a) (Vm.Alike.refl U.vm) qK, qD⟩, va_recv hK hP (ci := 12) (q0 := k0) rfl he0, fun U hU hW => ⟨rfl, by rw [hU], by rw [hU]; exact hP, va_K.moved hW.alike hK, hD.weaken (fun _ _ _ _ => trivial)⟩⟩ rfl rfl hl.1 rfl (lv_room (Nat.le_of_ble_eq_true rfl)) dX12_cut_55 ⟨Nat.le_of_ble_eq_true rfl, Nat.le_of_ble_eq_true rfl⟩) hS (fun q _ h => hFc q h) hFc (fun u t H1 locs ht hvm hw hB hz1 hk1 hS => ?_)
              obtain ⟨hP, hK1, hD1⟩ := hB
              rw [ht] at hP
              try dsimp only at hw
              clear hk1 hz1 hFc hD1 hK1
              generalize H1 = H at hP hS ⊢
              refine lv_aload_n hx hb dX12_cut_58 rfl (lv_at hl 0 rfl) ?_
              refine lv_iload_n hx hb dX12_cut_59 rfl (lv_at hl 1 rfl) ?_
              have hFc := zFree hD hS hA
              refine va_calli (va_runV (As := [.int v1]) (rest := []) ⟨hx, hb, hml, hown, hts⟩ (n_lays l dC dI H.size h0 v1 a1 a2 a3 a4 a5 a7 a8 a10 a11 a12 a13 a15 a16 a17 a18 a19 a20 a21 a22 a24 a26 a27 a29 a30 a31 a32 a33 a35 a36 a38 a50 a51 a54 a55 a57 a58 a59 a60 a64 cI ws tl k0 he0 k1 he1 t0 ht0 f_2) (cwV 1 hts gn_cut_529 rfl rfl rfl (by decide +kernel) ⟨Nat.le_of_ble_eq_true rfl, Nat.le_of_ble_eq_true rfl⟩) ⟨fun a U g mk q => by obtain ⟨q0, q1, qP, qK, qD⟩ := q; exact ⟨q0, q1, qP, va_K.moved (u := U) (U := U.calling g mk a) (Vm.Alike.refl U.vm) qK, qD⟩, va_recv hK hP (ci := 12) (q0 := k0) rfl he0, fun U hU hW => ⟨rfl, by rw [hU], by rw [hU]; exact hP, va_K.moved hW.alike hK, hD.weaken (fun _ _ _ _ => trivial)⟩⟩ rfl rfl hl.1 rfl (lv_room (Nat.le_of_ble_eq_true rfl)) dX12_cut_60 ⟨Nat.le_of_ble_eq_true rfl, Nat.le_of_ble_eq_true rfl⟩) hS (fun q _ h => hFc q h) hFc (fun r_14 u t H1 locs ht hvm hw hB hz1 hk1 hS => ?_)
              obtain ⟨hP, hK1, hD1⟩ := hB
              rw [ht] at hP
              try dsimp only at hw
              clear hk1 hz1 hFc hD1 hK1
              generalize H1 = H at hP hS ⊢
              obtain rfl := hw
              refine lv_istore (lv' := [(5, .int 0), (0, .ref h0), (1, .int v1), (2, .int 0), (3, .int 0), (4, .int v4)]) hx hb dX12_cut_63 hl (by decide) rfl (fun ls hl => ?_)
              refine lv_aload_n hx hb dX12_cut_65 rfl (lv_at hl 1 rfl) ?_
              refine va_get (D := (dC, dI)) (ci := 12) (v := .int 0) (C := RX12) (T := TX12) (N := 65) hx hb hts in_cut_RX12 hown hK hP k0 he0 rfl 14 (by decide) (hts (.fieldLink RX12 222 "PutBackModel" "top" "I") (by decide +kernel)) (fun _ h9 => h9) rfl dX12_cut_66 ?_
              refine lv_istore (lv' := [(6, .int 0), (5, .int 0), (0, .ref h0), (1, .int v1), (2, .int 0), (3, .int 0), (4, .int v4)]) hx hb dX12_cut_69 hl (by decide) rfl (fun ls hl => ?_)
              refine lv_aload_n hx hb dX12_cut_71 rfl (lv_at hl 2 rfl) ?_
              refine lv_iload hx hb dX12_cut_72 (lv_at hl 1 rfl) ?_
              refine lv_iload_n hx hb dX12_cut_74 rfl (lv_at hl 4 rfl) ?_
              refine lv_iadd hx hb dX12_cut_75 ?_
              refine lv_topi (fun z_15 ez_15 => ?_)
              obtain rfl : z_15 = (0 : Int32) := ez_15.trans (by decide)
              refine lv_iload_n hx hb dX12_cut_76 rfl (lv_at hl 5 rfl) ?_
              have hFc := zFree hD hS hA
              refine va_callv (va_runV (As := [.int 0, .int 0]) (rest := []) ⟨hx, hb, hml, hown, hts⟩ (n_putsAll l dC dI H.size h0 0 ([.int 0, .ref a1, .ref a2, .ref a3, .ref a4, .ref a5, .int 0, .ref a7, .ref a8, .int 0, .ref a10, .ref a11, .ref a12, .ref a13, .int 0, .ref a15, .ref a16, .ref a17, .ref a18, .ref a19, .ref a20, .ref a21, .ref a22, .int 0, .ref a24, .int 0, .ref a26, .ref a27, .int 0, .ref a29, .ref a30, .ref a31, .ref a32, .ref a33, .int 0, .ref a35, .ref a36, .int 0, .ref a38, .int 0, .int 0, .int 0, .int 0, .int 0, .long 0, .int 0, .int 0, .int (-1), .int (-1), .int 0, .ref a50, .ref a51, .int 0, .int 0, .ref a54, .ref a55, .int (-1), .ref a57, .ref a58, .ref a59, .ref a60, .int 0, .int 0, .int 0, .ref a64]) ws tl k0 he0) (cwV 2 hts gn_cut_235 rfl rfl rfl (by decide +kernel) ⟨Nat.le_of_ble_eq_true rfl, Nat.le_of_ble_eq_true rfl⟩) ⟨fun a U g mk q => by obtain ⟨q0, q1, qP, qK, qD⟩ := q; exact ⟨q0, q1, qP, va_K.moved (u := U) (U := U.calling g mk a) (Vm.Alike.refl U.vm) qK, qD⟩, va_recv hK hP (ci := 12) (q0 := k0) rfl he0, fun U hU hW => ⟨rfl, by rw [hU], by rw [hU]; exact hP, va_K.moved hW.alike hK, hD.weaken (fun _ _ _ _ => trivial)⟩⟩ rfl rfl hl.1 rfl (lv_room (Nat.le_of_ble_eq_true rfl)) dX12_cut_77 ⟨Nat.le_of_ble_eq_true rfl, Nat.le_of_ble_eq_true rfl⟩) hS (fun q _ h => hFc q h) hFc (fun u t H1 locs ht hvm hw hB hz1 hk1 hS => ?_)
              obtain ⟨hP, hK1, hD1⟩ := hB
              rw [ht] at hP
              try dsimp only at hw
              clear hk1 hz1 hFc hD1 hK1
              generalize H1 = H at hP hS ⊢
              refine lv_aload_n hx hb dX12_cut_80 rfl (lv_at hl 2 rfl) ?_
              refine lv_iload hx hb dX12_cut_81 (lv_at hl 0 rfl) ?_
              refine lv_iload hx hb dX12_cut_83 (lv_at hl 6 rfl) ?_
              have hFc := zFree hD hS hA
              refine va_calli (va_runV (As := [.int 0, .int v4]) (rest := []) ⟨hx, hb, hml, hown, hts⟩ (n_takes l dC dI H.size h0 v4 a1 a2 a3 a4 a5 a7 a8 a10 a11 a12 a13 a15 a16 a17 a18 a19 a20 a21 a22 a24 a26 a27 a29 a30 a31 a32 a33 a35 a36 a38 a50 a51 a54 a55 a57 a58 a59 a60 a64 cI ws tl k0 he0 k1 he1 t0 ht0 f_5) (cwV 2 hts gn_cut_535 rfl rfl rfl (by decide +kernel) ⟨Nat.le_of_ble_eq_true rfl, Nat.le_of_ble_eq_true rfl⟩) ⟨fun a U g mk q => by obtain ⟨q0, q1, qP, qK, qD⟩ := q; exact ⟨q0, q1, qP, va_K.moved (u := U) (U := U.calling g mk a) (Vm.Alike.refl U.vm) qK, qD⟩, va_recv hK hP (ci := 12) (q0 := k0) rfl he0, fun U hU hW => ⟨rfl, by rw [hU], by rw [hU]; exact hP, va_K.moved hW.alike hK, hD.weaken (fun _ _ _ _ => trivial)⟩⟩ rfl rfl hl.1 rfl (lv_room (Nat.le_of_ble_eq_true rfl)) dX12_cut_85 ⟨Nat.le_of_ble_eq_true rfl, Nat.le_of_ble_eq_true rfl⟩) hS (fun q _ h => hFc q h) hFc (fun r_17 u t H1 locs ht hvm hw hB hz1 hk1 hS => ?_)
              obtain ⟨hP, hK1, hD1⟩ := hB
              rw [ht] at hP
              try dsimp only at hw
              clear hk1 hz1 hFc hD1 hK1
              generalize H1 = H at hP hS ⊢
              obtain rfl := hw
              have hP9 := hP
              have hD9 := hD
              have hK9 := hK
              exact W.iret (v := 0) hx hb hr (fun t ht hW => ⟨⟨0, (), rfl, (by simp [sp_cut, f_2, f_5]), by rw [ht]; exact hP9, va_K.moved hW.alike hK9, hD9⟩, hS.F ht⟩) hS.2.2 dX12_cut_88
            · skip
              refine lv_iconst (v := (-1)) hx hb dX12_cut_52 (by decide) ?_
              have hP9 := hP
              have hD9 := hD
              have hK9 := hK
              exact W.iret (v := (-1)) hx hb hr (fun t ht hW => ⟨⟨(-1), (), rfl, zCut (fun h1 h2 h3 h4 => by subst h3; subst h4; revert c_12; decide), by rw [ht]; exact hP9, va_K.moved hW.alike hK9, hD9⟩, hS.F ht⟩) hS.2.2 dX12_cut_53
    · skip
      refine lv_if_eq (tgt := 52) hx hb dX12_cut_19 (by decide) (fun c_18 => ?_) (fun c_18 => ?_)
      rotate_left
      · exact (by revert c_18; decide : False).elim
      refine lv_iconst (v := (-1)) hx hb dX12_cut_52 (by decide) ?_
      have hP9 := hP
      have hD9 := hD
      have hK9 := hK
      exact W.iret (v := (-1)) hx hb hr (fun t ht hW => ⟨⟨(-1), (), rfl, zCut (fun h1 h2 h3 h4 => absurd h2 f_5), by rw [ht]; exact hP9, va_K.moved hW.alike hK9, hD9⟩, hS.F ht⟩) hS.2.2 dX12_cut_53
  · skip
    refine lv_if_eq (tgt := 52) hx hb dX12_cut_10 (by decide) (fun c_19 => ?_) (fun c_19 => ?_)
    rotate_left
    · exact (by revert c_19; decide : False).elim
    refine lv_iconst (v := (-1)) hx hb dX12_cut_52 (by decide) ?_
    have hP9 := hP
    have hD9 := hD
    have hK9 := hK
    exact W.iret (v := (-1)) hx hb hr (fun t ht hW => ⟨⟨(-1), (), rfl, zCut (fun h1 h2 h3 h4 => absurd h1 f_2), by rw [ht]; exact hP9, va_K.moved hW.alike hK9, hD9⟩, hS.F ht⟩) hS.2.2 dX12_cut_53
