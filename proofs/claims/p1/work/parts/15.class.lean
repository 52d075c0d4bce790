def wk_sign : List Cond := .code yX4_sign cX4_sign 1 (some .int) :: ([.fieldLink RX4 62 "PutBack$Reader" "place" "I", .fieldLink RX4 43 "PutBack$Reader" "length" "I"] ++ wsX40)
theorem ik_sign_RX4 : ∀ w ∈ u_ws RX4 TX4 14, w ∈ wk_sign := fun w h => List.mem_cons_of_mem _ (List.mem_append_right _ h)
set_option maxHeartbeats 4000000 in
set_option maxRecDepth 100000 in
theorem k_sign (l : Launch) (dC : Nat → ClassId) (dI : Nat → Nat → Nat) (sz : Nat) (rd : Nat) (lenses_ : Nat) (tp : Nat) (names_ : Nat) (quoted_ : Nat) (links_ : Nat) (walker2_ : Nat) : Met l yX4_sign wk_sign ({ frames := 0, cells := 0, slots := 0, locals := 0 } : Room) (va_Pc [.ref rd] (fun U => U.heap.size = sz ∧ va_P (dC, dI) cls [(rd, .inr (4, [.ref lenses_, .int 0, .int 0, .int 0, .int (-1), .int (-1), .ref tp, .ref names_, .ref quoted_, .ref links_, .ref walker2_, .int 0, .int 0, .int 0]))] U.heap ∧ va_K (dC, dI) cls [] U ∧ va_D (fun _ => True) [(rd, .inr (4, [.ref lenses_, .int 0, .int 0, .int 0, .int (-1), .int (-1), .ref tp, .ref names_, .ref quoted_, .ref links_, .ref walker2_, .int 0, .int 0, .int 0]))])) (va_Qi (fun (r : Int32) (_ : Unit) => r = -1) (fun (_ : Unit) t => va_P (dC, dI) cls [(rd, .inr (4, [.ref lenses_, .int 0, .int 0, .int 0, .int (-1), .int (-1), .ref tp, .ref names_, .ref quoted_, .ref links_, .ref walker2_, .int 0, .int 0, .int 0]))] t.heap ∧ va_K (dC, dI) cls [] t ∧ va_D (va_A [(rd, .inr (4, [.ref lenses_, .int 0, .int 0, .int 0, .int (-1), .int (-1), .ref tp, .ref names_, .ref quoted_, .ref links_, .ref walker2_, .int 0, .int 0, .int 0]))] sz) [(rd, .inr (4, [.ref lenses_, .int 0, .int 0, .int 0, .int (-1), .int (-1), .ref tp, .ref names_, .ref quoted_, .ref links_, .ref walker2_, .int 0, .int 0, .int 0]))]) (va_A [(rd, .inr (4, [.ref lenses_, .int 0, .int 0, .int 0, .int (-1), .int (-1), .ref tp, .ref names_, .ref quoted_, .ref links_, .ref walker2_, .int 0, .int 0, .int 0]))] sz)) 0 0 (va_A [(rd, .inr (4, [.ref lenses_, .int 0, .int 0, .int 0, .int (-1), .int (-1), .ref tp, .ref names_, .ref quoted_, .ref links_, .ref walker2_, .int 0, .int 0, .int 0]))] sz) := by
  refine Met.ofW (cc := cX4_sign) (maxL := 1) (ret := (some .int)) (by decide) rfl ?_
  intro p e s m args below meth c s₁ B hml hv
  obtain ⟨rfl, hsz, hP, hK, hD0⟩ := hv
  have hx := B.exec
  have hb := B.bytes
  have hr := B.returns
  have hts := atoms_spec (ws := wk_sign) B.pre
  have hown : s.vm.findClass RX4 = some m.cls := findClass_of_methodNamed B.named
  have hlocks := B.notSynchronized
  subst hsz
  have hD := hD0.self (sz := s.heap.size)
  generalize hAe : va_A [(rd, .inr (4, [.ref lenses_, .int 0, .int 0, .int 0, .int (-1), .int (-1), .ref tp, .ref names_, .ref quoted_, .ref links_, .ref walker2_, .int 0, .int 0, .int 0]))] s.heap.size = A at hD ⊢
  have hA : ∀ q : Nat, s.heap.size ≤ q → A q := fun q h => by rw [← hAe]; exact Or.inr h
  have hP : va_P (dC, dI) cls [(rd, .inr (4, [.ref lenses_, .int 0, .int 0, .int 0, .int (-1), .int (-1), .ref tp, .ref names_, .ref quoted_, .ref links_, .ref walker2_, .int 0, .int 0, .int 0]))] s.heap := hP
  have hl := lv_entry ([.ref rd]) (n := 1) (Nat.le_of_ble_eq_true rfl)
  rw [lg_entry_eq]
  generalize (lg_sl ([.ref rd]) ++ List.replicate (1 - (lg_sl ([.ref rd])).length) Slot.unset).toArray = ls at hl ⊢
  have hl : lv_has ls 1 [(0, .ref rd)] := hl
  obtain ⟨H, hH⟩ : ∃ H : Heap, s.heap = H := ⟨_, rfl⟩
  rw [hH] at hP ⊢
  have hS : va_S A s.heap H [] := by rw [← hH]; exact va_S.rf
  refine lv_aload_n hx hb dX4_sign_0 rfl (lv_at hl 0 rfl) ?_
  refine va_get (D := (dC, dI)) (ci := 4) (v := .int 0) (C := RX4) (T := TX4) (N := 14) hx hb hts ik_sign_RX4 hown hK hP 0 rfl rfl 12 (by decide) (hts (.fieldLink RX4 62 "PutBack$Reader" "place" "I") (by decide +kernel)) (fun _ h9 => h9) rfl dX4_sign_1 ?_
  refine lv_aload_n hx hb dX4_sign_4 rfl (lv_at hl 0 rfl) ?_
  refine va_get (D := (dC, dI)) (ci := 4) (v := .int 0) (C := RX4) (T := TX4) (N := 14) hx hb hts ik_sign_RX4 hown hK hP 0 rfl rfl 2 (by decide) (hts (.fieldLink RX4 43 "PutBack$Reader" "length" "I") (by decide +kernel)) (fun _ h9 => h9) rfl dX4_sign_5 ?_
  refine lv_icmp_ge (tgt := 52) hx hb dX4_sign_8 (by decide) (fun c_1 => ?_) (fun c_1 => ?_)
  rotate_left
  · exact (by revert c_1; decide : False).elim
  refine lv_aload_n hx hb dX4_sign_52 rfl (lv_at hl 0 rfl) ?_
  refine va_get (D := (dC, dI)) (ci := 4) (v := .int 0) (C := RX4) (T := TX4) (N := 14) hx hb hts ik_sign_RX4 hown hK hP 0 rfl rfl 12 (by decide) (hts (.fieldLink RX4 62 "PutBack$Reader" "place" "I") (by decide +kernel)) (fun _ h9 => h9) rfl dX4_sign_53 ?_
  refine lv_aload_n hx hb dX4_sign_56 rfl (lv_at hl 0 rfl) ?_
  refine va_get (D := (dC, dI)) (ci := 4) (v := .int 0) (C := RX4) (T := TX4) (N := 14) hx hb hts ik_sign_RX4 hown hK hP 0 rfl rfl 2 (by decide) (hts (.fieldLink RX4 43 "PutBack$Reader" "length" "I") (by decide +kernel)) (fun _ h9 => h9) rfl dX4_sign_57 ?_
  refine lv_icmp_ge (tgt := 75) hx hb dX4_sign_60 (by decide) (fun c_2 => ?_) (fun c_2 => ?_)
  rotate_left
  · exact (by revert c_2; decide : False).elim
  refine lv_iconst (v := (-1)) hx hb dX4_sign_75 (by decide) ?_
  have hK9 := hK.sub (tys' := []) [] rfl
  have hP9 := hP.sub (ws' := [(rd, .inr (4, [.ref lenses_, .int 0, .int 0, .int 0, .int (-1), .int (-1), .ref tp, .ref names_, .ref quoted_, .ref links_, .ref walker2_, .int 0, .int 0, .int 0]))]) [0] rfl
  have hD9 := hD.sub (ws' := [(rd, .inr (4, [.ref lenses_, .int 0, .int 0, .int 0, .int (-1), .int (-1), .ref tp, .ref names_, .ref quoted_, .ref links_, .ref walker2_, .int 0, .int 0, .int 0]))]) [0] (by decide) rfl
  exact W.iret (v := (-1)) hx hb hr (fun t ht hW => ⟨⟨(-1), (), rfl, rfl, by rw [ht]; exact hP9, va_K.moved hW.alike hK9, hD9⟩, hS.F ht⟩) hS.2.2 dX4_sign_76
def wk_letters : List Cond := .code yX4_letters cX4_letters 2 (some .int) :: ([.methodLink RX4 93 yX4_sign, .instanceMethod yX4_sign, .selects RX4 yX4_sign yX4_sign, .initialized RX4, .code yX4_sign cX4_sign 1 (some .int), .fieldLink RX4 62 "PutBack$Reader" "place" "I", .fieldLink RX4 43 "PutBack$Reader" "length" "I"] ++ wsX40)
theorem ik_letters_RX4 : ∀ w ∈ u_ws RX4 TX4 14, w ∈ wk_letters := fun w h => List.mem_cons_of_mem _ (List.mem_append_right _ h)
theorem gk_letters_93g : GoodIn wk_letters wk_sign := goodIn_r _ [5, 6, 7, 8, 9, 10, 11, 12, 13, 14, 15, 16, 17, 18, 19, 20, 21] (by decide +kernel) (by decide +kernel)
theorem gk_letters_93 : GoodIn wk_letters (wsV RX4 93 RX4 yX4_sign wk_sign) := goodIn_app (goodIn_of _ (by decide +kernel)) gk_letters_93g
set_option maxHeartbeats 4000000 in
set_option maxRecDepth 100000 in
theorem k_letters (l : Launch) (dC : Nat → ClassId) (dI : Nat → Nat → Nat) (sz : Nat) (rd : Nat) (lenses_ : Nat) (tp : Nat) (names_ : Nat) (quoted_ : Nat) (links_ : Nat) (walker2_ : Nat) : Met l yX4_letters wk_letters ({ frames := 1, cells := 0, slots := 0, locals := 20 } : Room) (va_Pc [.ref rd] (fun U => U.heap.size = sz ∧ va_P (dC, dI) cls [(rd, .inr (4, [.ref lenses_, .int 0, .int 0, .int 0, .int (-1), .int (-1), .ref tp, .ref names_, .ref quoted_, .ref links_, .ref walker2_, .int 0, .int 0, .int 0]))] U.heap ∧ va_K (dC, dI) cls [] U ∧ va_D (fun _ => True) [(rd, .inr (4, [.ref lenses_, .int 0, .int 0, .int 0, .int (-1), .int (-1), .ref tp, .ref names_, .ref quoted_, .ref links_, .ref walker2_, .int 0, .int 0, .int 0]))])) (va_Qi (fun (r : Int32) (_ : Unit) => r = 0) (fun (_ : Unit) t => va_P (dC, dI) cls [(rd, .inr (4, [.ref lenses_, .int 0, .int 0, .int 0, .int (-1), .int (-1), .ref tp, .ref names_, .ref quoted_, .ref links_, .ref walker2_, .int 0, .int 0, .int 0]))] t.heap ∧ va_K (dC, dI) cls [] t ∧ va_D (va_A [(rd, .inr (4, [.ref lenses_, .int 0, .int 0, .int 0, .int (-1), .int (-1), .ref tp, .ref names_, .ref quoted_, .ref links_, .ref walker2_, .int 0, .int 0, .int 0]))] sz) [(rd, .inr (4, [.ref lenses_, .int 0, .int 0, .int 0, .int (-1), .int (-1), .ref tp, .ref names_, .ref quoted_, .ref links_, .ref walker2_, .int 0, .int 0, .int 0]))]) (va_A [(rd, .inr (4, [.ref lenses_, .int 0, .int 0, .int 0, .int (-1), .int (-1), .ref tp, .ref names_, .ref quoted_, .ref links_, .ref walker2_, .int 0, .int 0, .int 0]))] sz)) 0 0 (va_A [(rd, .inr (4, [.ref lenses_, .int 0, .int 0, .int 0, .int (-1), .int (-1), .ref tp, .ref names_, .ref quoted_, .ref links_, .ref walker2_, .int 0, .int 0, .int 0]))] sz) := by
  refine Met.ofW (cc := cX4_letters) (maxL := 2) (ret := (some .int)) (by decide) rfl ?_
  intro p e s m args below meth c s₁ B hml hv
  obtain ⟨rfl, hsz, hP, hK, hD0⟩ := hv
  have hx := B.exec
  have hb := B.bytes
  have hr := B.returns
  have hts := atoms_spec (ws := wk_letters) B.pre
  have hown : s.vm.findClass RX4 = some m.cls := findClass_of_methodNamed B.named
  have hlocks := B.notSynchronized
  subst hsz
  have hD := hD0.self (sz := s.heap.size)
  generalize hAe : va_A [(rd, .inr (4, [.ref lenses_, .int 0, .int 0, .int 0, .int (-1), .int (-1), .ref tp, .ref names_, .ref quoted_, .ref links_, .ref walker2_, .int 0, .int 0, .int 0]))] s.heap.size = A at hD ⊢
  have hA : ∀ q : Nat, s.heap.size ≤ q → A q := fun q h => by rw [← hAe]; exact Or.inr h
  have hP : va_P (dC, dI) cls [(rd, .inr (4, [.ref lenses_, .int 0, .int 0, .int 0, .int (-1), .int (-1), .ref tp, .ref names_, .ref quoted_, .ref links_, .ref walker2_, .int 0, .int 0, .int 0]))] s.heap := hP
  have hl := lv_entry ([.ref rd]) (n := 2) (Nat.le_of_ble_eq_true rfl)
  rw [lg_entry_eq]
  generalize (lg_sl ([.ref rd]) ++ List.replicate (2 - (lg_sl ([.ref rd])).length) Slot.unset).toArray = ls at hl ⊢
  have hl : lv_has ls 2 [(0, .ref rd)] := hl
  obtain ⟨H, hH⟩ : ∃ H : Heap, s.heap = H := ⟨_, rfl⟩
  rw [hH] at hP ⊢
  have hS : va_S A s.heap H [] := by rw [← hH]; exact va_S.rf
  refine lv_aload_n hx hb dX4_letters_0 rfl (lv_at hl 0 rfl) ?_
  have hPc := hP.sub (ws' := [(rd, .inr (4, [.ref lenses_, .int 0, .int 0, .int 0, .int (-1), .int (-1), .ref tp, .ref names_, .ref quoted_, .ref links_, .ref walker2_, .int 0, .int 0, .int 0]))]) [0] rfl
  have hDc := hD.sub (ws' := [(rd, .inr (4, [.ref lenses_, .int 0, .int 0, .int 0, .int (-1), .int (-1), .ref tp, .ref names_, .ref quoted_, .ref links_, .ref walker2_, .int 0, .int 0, .int 0]))]) [0] (by decide) rfl
  have hKc := hK.sub (tys' := []) [] rfl
  have hFc := va_free (wc := [(rd, .inr (4, [.ref lenses_, .int 0, .int 0, .int 0, .int (-1), .int (-1), .ref tp, .ref names_, .ref quoted_, .ref links_, .ref walker2_, .int 0, .int 0, .int 0]))]) hD hS hA [0] rfl
  refine va_calli (va_runV (As := []) (rest := []) ⟨hx, hb, hml, hown, hts⟩ (k_sign l dC dI H.size rd lenses_ tp names_ quoted_ links_ walker2_) (cwV 0 hts gk_letters_93 rfl rfl rfl (by decide +kernel) ⟨Nat.le_of_ble_eq_true rfl, Nat.le_of_ble_eq_true rfl⟩) ⟨fun a U g mk q => by obtain ⟨q0, q1, qP, qK, qD⟩ := q; exact ⟨q0, q1, qP, va_K.moved (u := U) (U := U.calling g mk a) (Vm.Alike.refl U.vm) qK, qD⟩, va_recv hK hP (ci := 4) (q0 := 0) rfl rfl, fun U hU hW => ⟨rfl, by rw [hU], by rw [hU]; exact hPc, va_K.moved hW.alike hKc, hDc.weaken (fun _ _ _ _ => trivial)⟩⟩ rfl rfl hl.1 rfl (lv_room (Nat.le_of_ble_eq_true rfl)) dX4_letters_1 ⟨Nat.le_of_ble_eq_true rfl, Nat.le_of_ble_eq_true rfl⟩) hS (fun q _ h => hFc q h) hFc (fun r_2 u t H1 locs ht hvm hw hB hz1 hk1 hS => ?_)
  obtain ⟨hP1, hK1, hD1⟩ := hB
  rw [ht] at hP1
  try dsimp only at hw
  obtain ⟨hP, hD⟩ := va_join (wr := []) (w1 := [(rd, .inr (4, [.ref lenses_, .int 0, .int 0, .int 0, .int (-1), .int (-1), .ref tp, .ref names_, .ref quoted_, .ref links_, .ref walker2_, .int 0, .int 0, .int 0]))]) hP hD [0] [] rfl rfl (by decide) (by decide) hk1 hFc hP1 hD1
  clear hk1 hz1 hPc hDc hFc hP1 hD1 hK1 hKc
  generalize H1 = H at hP hS ⊢
  have hP : va_P (dC, dI) cls [(rd, .inr (4, [.ref lenses_, .int 0, .int 0, .int 0, .int (-1), .int (-1), .ref tp, .ref names_, .ref quoted_, .ref links_, .ref walker2_, .int 0, .int 0, .int 0]))] H := hP
  have hD : va_D A [(rd, .inr (4, [.ref lenses_, .int 0, .int 0, .int 0, .int (-1), .int (-1), .ref tp, .ref names_, .ref quoted_, .ref links_, .ref walker2_, .int 0, .int 0, .int 0]))] := hD
  obtain rfl := hw
  refine lv_pop hx hb dX4_letters_4 rfl ?_
  refine lv_iconst (v := 0) hx hb dX4_letters_5 (by decide) ?_
  refine lv_istore_n (lv' := [(1, .int 0), (0, .ref rd)]) hx hb dX4_letters_6 rfl hl (by decide) rfl (fun ls hl => ?_)
  refine lv_aload_n hx hb dX4_letters_7 rfl (lv_at hl 1 rfl) ?_
  refine va_get (D := (dC, dI)) (ci := 4) (v := .int 0) (C := RX4) (T := TX4) (N := 14) hx hb hts ik_letters_RX4 hown hK hP 0 rfl rfl 12 (by decide) (hts (.fieldLink RX4 62 "PutBack$Reader" "place" "I") (by decide +kernel)) (fun _ h9 => h9) rfl dX4_letters_8 ?_
  refine lv_iload_n hx hb dX4_letters_11 rfl (lv_at hl 0 rfl) ?_
  refine lv_iadd hx hb dX4_letters_12 ?_
  refine lv_topi (fun z_3 ez_3 => ?_)
  obtain rfl : z_3 = (0 : Int32) := ez_3.trans (by decide)
  refine lv_aload_n hx hb dX4_letters_13 rfl (lv_at hl 1 rfl) ?_
  refine va_get (D := (dC, dI)) (ci := 4) (v := .int 0) (C := RX4) (T := TX4) (N := 14) hx hb hts ik_letters_RX4 hown hK hP 0 rfl rfl 2 (by decide) (hts (.fieldLink RX4 43 "PutBack$Reader" "length" "I") (by decide +kernel)) (fun _ h9 => h9) rfl dX4_letters_14 ?_
  refine lv_icmp_ge (tgt := 58) hx hb dX4_letters_17 (by decide) (fun c_4 => ?_) (fun c_4 => ?_)
  rotate_left
  · exact (by revert c_4; decide : False).elim
  refine lv_iload_n hx hb dX4_letters_58 rfl (lv_at hl 0 rfl) ?_
  have hK9 := hK.sub (tys' := []) [] rfl
  have hP9 := hP.sub (ws' := [(rd, .inr (4, [.ref lenses_, .int 0, .int 0, .int 0, .int (-1), .int (-1), .ref tp, .ref names_, .ref quoted_, .ref links_, .ref walker2_, .int 0, .int 0, .int 0]))]) [0] rfl
  have hD9 := hD.sub (ws' := [(rd, .inr (4, [.ref lenses_, .int 0, .int 0, .int 0, .int (-1), .int (-1), .ref tp, .ref names_, .ref quoted_, .ref links_, .ref walker2_, .int 0, .int 0, .int 0]))]) [0] (by decide) rfl
  exact W.iret (v := 0) hx hb hr (fun t ht hW => ⟨⟨0, (), rfl, rfl, by rw [ht]; exact hP9, va_K.moved hW.alike hK9, hD9⟩, hS.F ht⟩) hS.2.2 dX4_letters_59
def wk_refuse : List Cond := .code yX4_refuse cX4_refuse 3 none :: ([.fieldLink RX4 68 "PutBack$Reader" "fault" "I", .fieldLink RX4 17 "PutBack$Reader" "faultPlace" "I"] ++ wsX40)
theorem ik_refuse_RX4 : ∀ w ∈ u_ws RX4 TX4 14, w ∈ wk_refuse := fun w h => List.mem_cons_of_mem _ (List.mem_append_right _ h)
set_option maxHeartbeats 4000000 in
set_option maxRecDepth 100000 in
theorem k_refuse (l : Launch) (dC : Nat → ClassId) (dI : Nat → Nat → Nat) (sz : Nat) (rd : Nat) (lenses_ : Nat) (tp : Nat) (names_ : Nat) (quoted_ : Nat) (links_ : Nat) (walker2_ : Nat) : Met l yX4_refuse wk_refuse ({ frames := 0, cells := 0, slots := 0, locals := 0 } : Room) (va_Pc [.ref rd, .int 1, .int 0] (fun U => U.heap.size = sz ∧ va_P (dC, dI) cls [(rd, .inr (4, [.ref lenses_, .int 0, .int 0, .int 0, .int (-1), .int (-1), .ref tp, .ref names_, .ref quoted_, .ref links_, .ref walker2_, .int 0, .int 0, .int 0]))] U.heap ∧ va_K (dC, dI) cls [] U ∧ va_D (fun _ => True) [(rd, .inr (4, [.ref lenses_, .int 0, .int 0, .int 0, .int (-1), .int (-1), .ref tp, .ref names_, .ref quoted_, .ref links_, .ref walker2_, .int 0, .int 0, .int 0]))])) (va_Qv (fun _ : Unit => True) (fun (_ : Unit) t => va_P (dC, dI) cls [(rd, .inr (4, [.ref lenses_, .int 0, .int 0, .int 1, .int 0, .int (-1), .ref tp, .ref names_, .ref quoted_, .ref links_, .ref walker2_, .int 0, .int 0, .int 0]))] t.heap ∧ va_K (dC, dI) cls [] t ∧ va_D (va_A [(rd, .inr (4, [.ref lenses_, .int 0, .int 0, .int 0, .int (-1), .int (-1), .ref tp, .ref names_, .ref quoted_, .ref links_, .ref walker2_, .int 0, .int 0, .int 0]))] sz) [(rd, .inr (4, [.ref lenses_, .int 0, .int 0, .int 1, .int 0, .int (-1), .ref tp, .ref names_, .ref quoted_, .ref links_, .ref walker2_, .int 0, .int 0, .int 0]))]) (va_A [(rd, .inr (4, [.ref lenses_, .int 0, .int 0, .int 0, .int (-1), .int (-1), .ref tp, .ref names_, .ref quoted_, .ref links_, .ref walker2_, .int 0, .int 0, .int 0]))] sz)) 0 0 (va_A [(rd, .inr (4, [.ref lenses_, .int 0, .int 0, .int 0, .int (-1), .int (-1), .ref tp, .ref names_, .ref quoted_, .ref links_, .ref walker2_, .int 0, .int 0, .int 0]))] sz) := by
  refine Met.ofW (cc := cX4_refuse) (maxL := 3) (ret := none) (by decide) rfl ?_
  intro p e s m args below meth c s₁ B hml hv
  obtain ⟨rfl, hsz, hP, hK, hD0⟩ := hv
  have hx := B.exec
  have hb := B.bytes
  have hr := B.returns
  have hts := atoms_spec (ws := wk_refuse) B.pre
  have hown : s.vm.findClass RX4 = some m.cls := findClass_of_methodNamed B.named
  have hlocks := B.notSynchronized
  subst hsz
  have hD := hD0.self (sz := s.heap.size)
  generalize hAe : va_A [(rd, .inr (4, [.ref lenses_, .int 0, .int 0, .int 0, .int (-1), .int (-1), .ref tp, .ref names_, .ref quoted_, .ref links_, .ref walker2_, .int 0, .int 0, .int 0]))] s.heap.size = A at hD ⊢
  have hA : ∀ q : Nat, s.heap.size ≤ q → A q := fun q h => by rw [← hAe]; exact Or.inr h
  have hP : va_P (dC, dI) cls [(rd, .inr (4, [.ref lenses_, .int 0, .int 0, .int 0, .int (-1), .int (-1), .ref tp, .ref names_, .ref quoted_, .ref links_, .ref walker2_, .int 0, .int 0, .int 0]))] s.heap := hP
  have hl := lv_entry ([.ref rd, .int 1, .int 0]) (n := 3) (Nat.le_of_ble_eq_true rfl)
  rw [lg_entry_eq]
  generalize (lg_sl ([.ref rd, .int 1, .int 0]) ++ List.replicate (3 - (lg_sl ([.ref rd, .int 1, .int 0])).length) Slot.unset).toArray = ls at hl ⊢
  have hl : lv_has ls 3 [(0, .ref rd), (1, .int 1), (2, .int 0)] := hl
  obtain ⟨H, hH⟩ : ∃ H : Heap, s.heap = H := ⟨_, rfl⟩
  rw [hH] at hP ⊢
  have hS : va_S A s.heap H [] := by rw [← hH]; exact va_S.rf
  refine lv_aload_n hx hb dX4_refuse_0 rfl (lv_at hl 0 rfl) ?_
  refine va_get (D := (dC, dI)) (ci := 4) (v := .int 0) (C := RX4) (T := TX4) (N := 14) hx hb hts ik_refuse_RX4 hown hK hP 0 rfl rfl 3 (by decide) (hts (.fieldLink RX4 68 "PutBack$Reader" "fault" "I") (by decide +kernel)) (fun _ h9 => h9) rfl dX4_refuse_1 ?_
  refine lv_if_ne (tgt := 17) hx hb dX4_refuse_4 (by decide) (fun c_1 => ?_) (fun c_1 => ?_)
  · exact (by revert c_1; decide : False).elim
  refine lv_aload_n hx hb dX4_refuse_7 rfl (lv_at hl 0 rfl) ?_
  refine lv_iload_n hx hb dX4_refuse_8 rfl (lv_at hl 1 rfl) ?_
  refine va_put (D := (dC, dI)) (ci := 4) (v := .int 1) (ty := .int) (C := RX4) (T := TX4) (N := 14) hx hb hts ik_refuse_RX4 tyX4 tyX4_ok nmX4 hown hK hP hD hS 0 rfl rfl 3 (by decide) (hts (.fieldLink RX4 68 "PutBack$Reader" "fault" "I") (by decide +kernel)) (fun _ h9 => h9) rfl (by decide +kernel) rfl rfl (Nat.le_of_ble_eq_true rfl) dX4_refuse_9 (fun H locs hP hD hS => ?_)
  have hP : va_P (dC, dI) cls [(rd, .inr (4, [.ref lenses_, .int 0, .int 0, .int 1, .int (-1), .int (-1), .ref tp, .ref names_, .ref quoted_, .ref links_, .ref walker2_, .int 0, .int 0, .int 0]))] H := hP
  have hD : va_D A [(rd, .inr (4, [.ref lenses_, .int 0, .int 0, .int 1, .int (-1), .int (-1), .ref tp, .ref names_, .ref quoted_, .ref links_, .ref walker2_, .int 0, .int 0, .int 0]))] := hD
  refine lv_aload_n hx hb dX4_refuse_12 rfl (lv_at hl 0 rfl) ?_
  refine lv_iload_n hx hb dX4_refuse_13 rfl (lv_at hl 2 rfl) ?_
  refine va_put (D := (dC, dI)) (ci := 4) (v := .int 0) (ty := .int) (C := RX4) (T := TX4) (N := 14) hx hb hts ik_refuse_RX4 tyX4 tyX4_ok nmX4 hown hK hP hD hS 0 rfl rfl 4 (by decide) (hts (.fieldLink RX4 17 "PutBack$Reader" "faultPlace" "I") (by decide +kernel)) (fun _ h9 => h9) rfl (by decide +kernel) rfl rfl (Nat.le_of_ble_eq_true rfl) dX4_refuse_14 (fun H locs hP hD hS => ?_)
  have hP : va_P (dC, dI) cls [(rd, .inr (4, [.ref lenses_, .int 0, .int 0, .int 1, .int 0, .int (-1), .ref tp, .ref names_, .ref quoted_, .ref links_, .ref walker2_, .int 0, .int 0, .int 0]))] H := hP
  have hD : va_D A [(rd, .inr (4, [.ref lenses_, .int 0, .int 0, .int 1, .int 0, .int (-1), .ref tp, .ref names_, .ref quoted_, .ref links_, .ref walker2_, .int 0, .int 0, .int 0]))] := hD
  have hK9 := hK.sub (tys' := []) [] rfl
  have hP9 := hP.sub (ws' := [(rd, .inr (4, [.ref lenses_, .int 0, .int 0, .int 1, .int 0, .int (-1), .ref tp, .ref names_, .ref quoted_, .ref links_, .ref walker2_, .int 0, .int 0, .int 0]))]) [0] rfl
  have hD9 := hD.sub (ws' := [(rd, .inr (4, [.ref lenses_, .int 0, .int 0, .int 1, .int 0, .int (-1), .ref tp, .ref names_, .ref quoted_, .ref links_, .ref walker2_, .int 0, .int 0, .int 0]))]) [0] (by decide) rfl
  exact W.vret hx hb hr (fun t ht hW => ⟨⟨(), rfl, trivial, by rw [ht]; exact hP9, va_K.moved hW.alike hK9, hD9⟩, hS.F ht⟩) hS.2.2 dX4_refuse_17
def wk_takeName : List Cond := .code yX4_takeName cX4_takeName 5 (some .long) :: ([.methodLink RX4 125 yX4_letters, .instanceMethod yX4_letters, .selects RX4 yX4_letters yX4_letters, .initialized RX4, .code yX4_letters cX4_letters 2 (some .int), .methodLink RX4 93 yX4_sign, .instanceMethod yX4_sign, .selects RX4 yX4_sign yX4_sign, .code yX4_sign cX4_sign 1 (some .int), .fieldLink RX4 62 "PutBack$Reader" "place" "I", .fieldLink RX4 43 "PutBack$Reader" "length" "I", .methodLink RX4 97 yX4_refuse, .instanceMethod yX4_refuse, .selects RX4 yX4_refuse yX4_refuse, .code yX4_refuse cX4_refuse 3 none, .fieldLink RX4 68 "PutBack$Reader" "fault" "I", .fieldLink RX4 17 "PutBack$Reader" "faultPlace" "I"] ++ wsX40)
theorem ik_takeName_RX4 : ∀ w ∈ u_ws RX4 TX4 14, w ∈ wk_takeName := fun w h => List.mem_cons_of_mem _ (List.mem_append_right _ h)
theorem gk_takeName_125g : GoodIn wk_takeName wk_letters := goodIn_r _ [5, 6, 7, 8, 4, 9, 10, 11, 18, 19, 20, 21, 22, 23, 24, 25, 26, 27, 28, 29, 30, 31] (by decide +kernel) (by decide +kernel)
theorem gk_takeName_125 : GoodIn wk_takeName (wsV RX4 125 RX4 yX4_letters wk_letters) := goodIn_app (goodIn_of _ (by decide +kernel)) gk_takeName_125g
theorem gk_takeName_97g : GoodIn wk_takeName wk_refuse := goodIn_r _ [15, 16, 17, 18, 19, 20, 21, 22, 23, 24, 25, 26, 27, 28, 29, 30, 31] (by decide +kernel) (by decide +kernel)
theorem gk_takeName_97 : GoodIn wk_takeName (wsV RX4 97 RX4 yX4_refuse wk_refuse) := goodIn_app (goodIn_of _ (by decide +kernel)) gk_takeName_97g
set_option maxHeartbeats 4000000 in
set_option maxRecDepth 100000 in
theorem k_takeName (l : Launch) (dC : Nat → ClassId) (dI : Nat → Nat → Nat) (sz : Nat) (rd : Nat) (lenses_ : Nat) (tp : Nat) (names_ : Nat) (quoted_ : Nat) (links_ : Nat) (walker2_ : Nat) : Met l yX4_takeName wk_takeName ({ frames := 2, cells := 0, slots := 0, locals := 41 } : Room) (va_Pc [.ref rd] (fun U => U.heap.size = sz ∧ va_P (dC, dI) cls [(rd, .inr (4, [.ref lenses_, .int 0, .int 0, .int 0, .int (-1), .int (-1), .ref tp, .ref names_, .ref quoted_, .ref links_, .ref walker2_, .int 0, .int 0, .int 0]))] U.heap ∧ va_K (dC, dI) cls [] U ∧ va_D (fun _ => True) [(rd, .inr (4, [.ref lenses_, .int 0, .int 0, .int 0, .int (-1), .int (-1), .ref tp, .ref names_, .ref quoted_, .ref links_, .ref walker2_, .int 0, .int 0, .int 0]))])) (va_Ql (fun (r : Int64) (_ : Unit) => r = 0) (fun (_ : Unit) t => va_P (dC, dI) cls [(rd, .inr (4, [.ref lenses_, .int 0, .int 0, .int 1, .int 0, .int (-1), .ref tp, .ref names_, .ref quoted_, .ref links_, .ref walker2_, .int 0, .int 0, .int 0]))] t.heap ∧ va_K (dC, dI) cls [] t ∧ va_D (va_A [(rd, .inr (4, [.ref lenses_, .int 0, .int 0, .int 0, .int (-1), .int (-1), .ref tp, .ref names_, .ref quoted_, .ref links_, .ref walker2_, .int 0, .int 0, .int 0]))] sz) [(rd, .inr (4, [.ref lenses_, .int 0, .int 0, .int 1, .int 0, .int (-1), .ref tp, .ref names_, .ref quoted_, .ref links_, .ref walker2_, .int 0, .int 0, .int 0]))]) (va_A [(rd, .inr (4, [.ref lenses_, .int 0, .int 0, .int 0, .int (-1), .int (-1), .ref tp, .ref names_, .ref quoted_, .ref links_, .ref walker2_, .int 0, .int 0, .int 0]))] sz)) 0 0 (va_A [(rd, .inr (4, [.ref lenses_, .int 0, .int 0, .int 0, .int (-1), .int (-1), .ref tp, .ref names_, .ref quoted_, .ref links_, .ref walker2_, .int 0, .int 0, .int 0]))] sz) := by
  refine Met.ofW (cc := cX4_takeName) (maxL := 5) (ret := (some .long)) (by decide) rfl ?_
  intro p e s m args below meth c s₁ B hml hv
  obtain ⟨rfl, hsz, hP, hK, hD0⟩ := hv
  have hx := B.exec
  have hb := B.bytes
  have hr := B.returns
  have hts := atoms_spec (ws := wk_takeName) B.pre
  have hown : s.vm.findClass RX4 = some m.cls := findClass_of_methodNamed B.named
  have hlocks := B.notSynchronized
  subst hsz
  have hD := hD0.self (sz := s.heap.size)
  generalize hAe : va_A [(rd, .inr (4, [.ref lenses_, .int 0, .int 0, .int 0, .int (-1), .int (-1), .ref tp, .ref names_, .ref quoted_, .ref links_, .ref walker2_, .int 0, .int 0, .int 0]))] s.heap.size = A at hD ⊢
  have hA : ∀ q : Nat, s.heap.size ≤ q → A q := fun q h => by rw [← hAe]; exact Or.inr h
  have hP : va_P (dC, dI) cls [(rd, .inr (4, [.ref lenses_, .int 0, .int 0, .int 0, .int (-1), .int (-1), .ref tp, .ref names_, .ref quoted_, .ref links_, .ref walker2_, .int 0, .int 0, .int 0]))] s.heap := hP
  have hl := lv_entry ([.ref rd]) (n := 5) (Nat.le_of_ble_eq_true rfl)
  rw [lg_entry_eq]
  generalize (lg_sl ([.ref rd]) ++ List.replicate (5 - (lg_sl ([.ref rd])).length) Slot.unset).toArray = ls at hl ⊢
  have hl : lv_has ls 5 [(0, .ref rd)] := hl
  obtain ⟨H, hH⟩ : ∃ H : Heap, s.heap = H := ⟨_, rfl⟩
  rw [hH] at hP ⊢
  have hS : va_S A s.heap H [] := by rw [← hH]; exact va_S.rf
  refine lv_aload_n hx hb dX4_takeName_0 rfl (lv_at hl 0 rfl) ?_
  have hPc := hP.sub (ws' := [(rd, .inr (4, [.ref lenses_, .int 0, .int 0, .int 0, .int (-1), .int (-1), .ref tp, .ref names_, .ref quoted_, .ref links_, .ref walker2_, .int 0, .int 0, .int 0]))]) [0] rfl
  have hDc := hD.sub (ws' := [(rd, .inr (4, [.ref lenses_, .int 0, .int 0, .int 0, .int (-1), .int (-1), .ref tp, .ref names_, .ref quoted_, .ref links_, .ref walker2_, .int 0, .int 0, .int 0]))]) [0] (by decide) rfl
  have hKc := hK.sub (tys' := []) [] rfl
  have hFc := va_free (wc := [(rd, .inr (4, [.ref lenses_, .int 0, .int 0, .int 0, .int (-1), .int (-1), .ref tp, .ref names_, .ref quoted_, .ref links_, .ref walker2_, .int 0, .int 0, .int 0]))]) hD hS hA [0] rfl
  refine va_calli (va_runV (As := []) (rest := []) ⟨hx, hb, hml, hown, hts⟩ (k_letters l dC dI H.size rd lenses_ tp names_ quoted_ links_ walker2_) (cwV 0 hts gk_takeName_125 rfl rfl rfl (by decide +kernel) ⟨Nat.le_of_ble_eq_true rfl, Nat.le_of_ble_eq_true rfl⟩) ⟨fun a U g mk q => by obtain ⟨q0, q1, qP, qK, qD⟩ := q; exact ⟨q0, q1, qP, va_K.moved (u := U) (U := U.calling g mk a) (Vm.Alike.refl U.vm) qK, qD⟩, va_recv hK hP (ci := 4) (q0 := 0) rfl rfl, fun U hU hW => ⟨rfl, by rw [hU], by rw [hU]; exact hPc, va_K.moved hW.alike hKc, hDc.weaken (fun _ _ _ _ => trivial)⟩⟩ rfl rfl hl.1 rfl (lv_room (Nat.le_of_ble_eq_true rfl)) dX4_takeName_1 ⟨Nat.le_of_ble_eq_true rfl, Nat.le_of_ble_eq_true rfl⟩) hS (fun q _ h => hFc q h) hFc (fun r_2 u t H1 locs ht hvm hw hB hz1 hk1 hS => ?_)
  obtain ⟨hP1, hK1, hD1⟩ := hB
  rw [ht] at hP1
  try dsimp only at hw
  obtain ⟨hP, hD⟩ := va_join (wr := []) (w1 := [(rd, .inr (4, [.ref lenses_, .int 0, .int 0, .int 0, .int (-1), .int (-1), .ref tp, .ref names_, .ref quoted_, .ref links_, .ref walker2_, .int 0, .int 0, .int 0]))]) hP hD [0] [] rfl rfl (by decide) (by decide) hk1 hFc hP1 hD1
  clear hk1 hz1 hPc hDc hFc hP1 hD1 hK1 hKc
  generalize H1 = H at hP hS ⊢
  have hP : va_P (dC, dI) cls [(rd, .inr (4, [.ref lenses_, .int 0, .int 0, .int 0, .int (-1), .int (-1), .ref tp, .ref names_, .ref quoted_, .ref links_, .ref walker2_, .int 0, .int 0, .int 0]))] H := hP
  have hD : va_D A [(rd, .inr (4, [.ref lenses_, .int 0, .int 0, .int 0, .int (-1), .int (-1), .ref tp, .ref names_, .ref quoted_, .ref links_, .ref walker2_, .int 0, .int 0, .int 0]))] := hD
  obtain rfl := hw
  refine lv_istore_n (lv' := [(1, .int 0), (0, .ref rd)]) hx hb dX4_takeName_4 rfl hl (by decide) rfl (fun ls hl => ?_)
  refine lv_iload_n hx hb dX4_takeName_5 rfl (lv_at hl 0 rfl) ?_
  refine lv_if_eq (tgt := 22) hx hb dX4_takeName_6 (by decide) (fun c_3 => ?_) (fun c_3 => ?_)
  rotate_left
  · exact (by revert c_3; decide : False).elim
  refine lv_aload_n hx hb dX4_takeName_22 rfl (lv_at hl 1 rfl) ?_
  refine lv_iconst (v := 1) hx hb dX4_takeName_23 (by decide) ?_
  refine lv_aload_n hx hb dX4_takeName_24 rfl (lv_at hl 1 rfl) ?_
  refine va_get (D := (dC, dI)) (ci := 4) (v := .int 0) (C := RX4) (T := TX4) (N := 14) hx hb hts ik_takeName_RX4 hown hK hP 0 rfl rfl 12 (by decide) (hts (.fieldLink RX4 62 "PutBack$Reader" "place" "I") (by decide +kernel)) (fun _ h9 => h9) rfl dX4_takeName_25 ?_
  have hPc := hP.sub (ws' := [(rd, .inr (4, [.ref lenses_, .int 0, .int 0, .int 0, .int (-1), .int (-1), .ref tp, .ref names_, .ref quoted_, .ref links_, .ref walker2_, .int 0, .int 0, .int 0]))]) [0] rfl
  have hDc := hD.sub (ws' := [(rd, .inr (4, [.ref lenses_, .int 0, .int 0, .int 0, .int (-1), .int (-1), .ref tp, .ref names_, .ref quoted_, .ref links_, .ref walker2_, .int 0, .int 0, .int 0]))]) [0] (by decide) rfl
  have hKc := hK.sub (tys' := []) [] rfl
  have hFc := va_free (wc := [(rd, .inr (4, [.ref lenses_, .int 0, .int 0, .int 0, .int (-1), .int (-1), .ref tp, .ref names_, .ref quoted_, .ref links_, .ref walker2_, .int 0, .int 0, .int 0]))]) hD hS hA [0] rfl
  refine va_callv (va_runV (As := [.int 1, .int 0]) (rest := []) ⟨hx, hb, hml, hown, hts⟩ (k_refuse l dC dI H.size rd lenses_ tp names_ quoted_ links_ walker2_) (cwV 2 hts gk_takeName_97 rfl rfl rfl (by decide +kernel) ⟨Nat.le_of_ble_eq_true rfl, Nat.le_of_ble_eq_true rfl⟩) ⟨fun a U g mk q => by obtain ⟨q0, q1, qP, qK, qD⟩ := q; exact ⟨q0, q1, qP, va_K.moved (u := U) (U := U.calling g mk a) (Vm.Alike.refl U.vm) qK, qD⟩, va_recv hK hP (ci := 4) (q0 := 0) rfl rfl, fun U hU hW => ⟨rfl, by rw [hU], by rw [hU]; exact hPc, va_K.moved hW.alike hKc, hDc.weaken (fun _ _ _ _ => trivial)⟩⟩ rfl rfl hl.1 rfl (lv_room (Nat.le_of_ble_eq_true rfl)) dX4_takeName_28 ⟨Nat.le_of_ble_eq_true rfl, Nat.le_of_ble_eq_true rfl⟩) hS (fun q _ h => hFc q h) hFc (fun u t H1 locs ht hvm hw hB hz1 hk1 hS => ?_)
  obtain ⟨hP1, hK1, hD1⟩ := hB
  rw [ht] at hP1
  try dsimp only at hw
  obtain ⟨hP, hD⟩ := va_join (wr := []) (w1 := [(rd, .inr (4, [.ref lenses_, .int 0, .int 0, .int 1, .int 0, .int (-1), .ref tp, .ref names_, .ref quoted_, .ref links_, .ref walker2_, .int 0, .int 0, .int 0]))]) hP hD [0] [] rfl rfl (by decide) (by decide) hk1 hFc hP1 hD1
  clear hk1 hz1 hPc hDc hFc hP1 hD1 hK1 hKc
  generalize H1 = H at hP hS ⊢
  have hP : va_P (dC, dI) cls [(rd, .inr (4, [.ref lenses_, .int 0, .int 0, .int 1, .int 0, .int (-1), .ref tp, .ref names_, .ref quoted_, .ref links_, .ref walker2_, .int 0, .int 0, .int 0]))] H := hP
  have hD : va_D A [(rd, .inr (4, [.ref lenses_, .int 0, .int 0, .int 1, .int 0, .int (-1), .ref tp, .ref names_, .ref quoted_, .ref links_, .ref walker2_, .int 0, .int 0, .int 0]))] := hD
  refine lv_lconst (v := 0) hx hb dX4_takeName_31 (by decide) ?_
  have hK9 := hK.sub (tys' := []) [] rfl
  have hP9 := hP.sub (ws' := [(rd, .inr (4, [.ref lenses_, .int 0, .int 0, .int 1, .int 0, .int (-1), .ref tp, .ref names_, .ref quoted_, .ref links_, .ref walker2_, .int 0, .int 0, .int 0]))]) [0] rfl
  have hD9 := hD.sub (ws' := [(rd, .inr (4, [.ref lenses_, .int 0, .int 0, .int 1, .int 0, .int (-1), .ref tp, .ref names_, .ref quoted_, .ref links_, .ref walker2_, .int 0, .int 0, .int 0]))]) [0] (by decide) rfl
  exact W.lret (v := 0) hx hb hr (fun t ht hW => ⟨⟨0, (), rfl, rfl, by rw [ht]; exact hP9, va_K.moved hW.alike hK9, hD9⟩, hS.F ht⟩) hS.2.2 dX4_takeName_32
def wk_ownName : List Cond := .code yX4_ownName cX4_ownName 4 (some .long) :: ([.methodLink RX4 93 yX4_sign, .instanceMethod yX4_sign, .selects RX4 yX4_sign yX4_sign, .initialized RX4, .code yX4_sign cX4_sign 1 (some .int), .fieldLink RX4 62 "PutBack$Reader" "place" "I", .fieldLink RX4 43 "PutBack$Reader" "length" "I", .methodLink RX4 156 yX4_takeName, .instanceMethod yX4_takeName, .selects RX4 yX4_takeName yX4_takeName, .code yX4_takeName cX4_takeName 5 (some .long), .methodLink RX4 125 yX4_letters, .instanceMethod yX4_letters, .selects RX4 yX4_letters yX4_letters, .code yX4_letters cX4_letters 2 (some .int), .methodLink RX4 97 yX4_refuse, .instanceMethod yX4_refuse, .selects RX4 yX4_refuse yX4_refuse, .code yX4_refuse cX4_refuse 3 none, .fieldLink RX4 68 "PutBack$Reader" "fault" "I", .fieldLink RX4 17 "PutBack$Reader" "faultPlace" "I"] ++ wsX40)
theorem ik_ownName_RX4 : ∀ w ∈ u_ws RX4 TX4 14, w ∈ wk_ownName := fun w h => List.mem_cons_of_mem _ (List.mem_append_right _ h)
theorem gk_ownName_93g : GoodIn wk_ownName wk_sign := goodIn_r _ [5, 6, 7, 22, 23, 24, 25, 26, 27, 28, 29, 30, 31, 32, 33, 34, 35] (by decide +kernel) (by decide +kernel)
theorem gk_ownName_93 : GoodIn wk_ownName (wsV RX4 93 RX4 yX4_sign wk_sign) := goodIn_app (goodIn_of _ (by decide +kernel)) gk_ownName_93g
theorem gk_ownName_156g : GoodIn wk_ownName wk_takeName := goodIn_r _ [11, 12, 13, 14, 4, 15, 1, 2, 3, 5, 6, 7, 16, 17, 18, 19, 20, 21, 22, 23, 24, 25, 26, 27, 28, 29, 30, 31, 32, 33, 34, 35] (by decide +kernel) (by decide +kernel)
theorem gk_ownName_156 : GoodIn wk_ownName (wsV RX4 156 RX4 yX4_takeName wk_takeName) := goodIn_app (goodIn_of _ (by decide +kernel)) gk_ownName_156g
set_option maxHeartbeats 4000000 in
set_option maxRecDepth 100000 in
theorem k_ownName (l : Launch) (dC : Nat → ClassId) (dI : Nat → Nat → Nat) (sz : Nat) (rd : Nat) (lenses_ : Nat) (tp : Nat) (names_ : Nat) (quoted_ : Nat) (links_ : Nat) (walker2_ : Nat) : Met l yX4_ownName wk_ownName ({ frames := 3, cells := 0, slots := 0, locals := 65 } : Room) (va_Pc [.ref rd] (fun U => U.heap.size = sz ∧ va_P (dC, dI) cls [(rd, .inr (4, [.ref lenses_, .int 0, .int 0, .int 0, .int (-1), .int (-1), .ref tp, .ref names_, .ref quoted_, .ref links_, .ref walker2_, .int 0, .int 0, .int 0]))] U.heap ∧ va_K (dC, dI) cls [] U ∧ va_D (fun _ => True) [(rd, .inr (4, [.ref lenses_, .int 0, .int 0, .int 0, .int (-1), .int (-1), .ref tp, .ref names_, .ref quoted_, .ref links_, .ref walker2_, .int 0, .int 0, .int 0]))])) (va_Ql (fun (r : Int64) (_ : Unit) => r = 0) (fun (_ : Unit) t => va_P (dC, dI) cls [(rd, .inr (4, [.ref lenses_, .int 0, .int 0, .int 1, .int 0, .int (-1), .ref tp, .ref names_, .ref quoted_, .ref links_, .ref walker2_, .int 0, .int 0, .int 0]))] t.heap ∧ va_K (dC, dI) cls [] t ∧ va_D (va_A [(rd, .inr (4, [.ref lenses_, .int 0, .int 0, .int 0, .int (-1), .int (-1), .ref tp, .ref names_, .ref quoted_, .ref links_, .ref walker2_, .int 0, .int 0, .int 0]))] sz) [(rd, .inr (4, [.ref lenses_, .int 0, .int 0, .int 1, .int 0, .int (-1), .ref tp, .ref names_, .ref quoted_, .ref links_, .ref walker2_, .int 0, .int 0, .int 0]))]) (va_A [(rd, .inr (4, [.ref lenses_, .int 0, .int 0, .int 0, .int (-1), .int (-1), .ref tp, .ref names_, .ref quoted_, .ref links_, .ref walker2_, .int 0, .int 0, .int 0]))] sz)) 0 0 (va_A [(rd, .inr (4, [.ref lenses_, .int 0, .int 0, .int 0, .int (-1), .int (-1), .ref tp, .ref names_, .ref quoted_, .ref links_, .ref walker2_, .int 0, .int 0, .int 0]))] sz) := by
  refine Met.ofW (cc := cX4_ownName) (maxL := 4) (ret := (some .long)) (by decide) rfl ?_
  intro p e s m args below meth c s₁ B hml hv
  obtain ⟨rfl, hsz, hP, hK, hD0⟩ := hv
  have hx := B.exec
  have hb := B.bytes
  have hr := B.returns
  have hts := atoms_spec (ws := wk_ownName) B.pre
  have hown : s.vm.findClass RX4 = some m.cls := findClass_of_methodNamed B.named
  have hlocks := B.notSynchronized
  subst hsz
  have hD := hD0.self (sz := s.heap.size)
  generalize hAe : va_A [(rd, .inr (4, [.ref lenses_, .int 0, .int 0, .int 0, .int (-1), .int (-1), .ref tp, .ref names_, .ref quoted_, .ref links_, .ref walker2_, .int 0, .int 0, .int 0]))] s.heap.size = A at hD ⊢
  have hA : ∀ q : Nat, s.heap.size ≤ q → A q := fun q h => by rw [← hAe]; exact Or.inr h
  have hP : va_P (dC, dI) cls [(rd, .inr (4, [.ref lenses_, .int 0, .int 0, .int 0, .int (-1), .int (-1), .ref tp, .ref names_, .ref quoted_, .ref links_, .ref walker2_, .int 0, .int 0, .int 0]))] s.heap := hP
  have hl := lv_entry ([.ref rd]) (n := 4) (Nat.le_of_ble_eq_true rfl)
  rw [lg_entry_eq]
  generalize (lg_sl ([.ref rd]) ++ List.replicate (4 - (lg_sl ([.ref rd])).length) Slot.unset).toArray = ls at hl ⊢
  have hl : lv_has ls 4 [(0, .ref rd)] := hl
  obtain ⟨H, hH⟩ : ∃ H : Heap, s.heap = H := ⟨_, rfl⟩
  rw [hH] at hP ⊢
  have hS : va_S A s.heap H [] := by rw [← hH]; exact va_S.rf
  refine lv_aload_n hx hb dX4_ownName_0 rfl (lv_at hl 0 rfl) ?_
  have hPc := hP.sub (ws' := [(rd, .inr (4, [.ref lenses_, .int 0, .int 0, .int 0, .int (-1), .int (-1), .ref tp, .ref names_, .ref quoted_, .ref links_, .ref walker2_, .int 0, .int 0, .int 0]))]) [0] rfl
  have hDc := hD.sub (ws' := [(rd, .inr (4, [.ref lenses_, .int 0, .int 0, .int 0, .int (-1), .int (-1), .ref tp, .ref names_, .ref quoted_, .ref links_, .ref walker2_, .int 0, .int 0, .int 0]))]) [0] (by decide) rfl
  have hKc := hK.sub (tys' := []) [] rfl
  have hFc := va_free (wc := [(rd, .inr (4, [.ref lenses_, .int 0, .int 0, .int 0, .int (-1), .int (-1), .ref tp, .ref names_, .ref quoted_, .ref links_, .ref walker2_, .int 0, .int 0, .int 0]))]) hD hS hA [0] rfl
  refine va_calli (va_runV (As := []) (rest := []) ⟨hx, hb, hml, hown, hts⟩ (k_sign l dC dI H.size rd lenses_ tp names_ quoted_ links_ walker2_) (cwV 0 hts gk_ownName_93 rfl rfl rfl (by decide +kernel) ⟨Nat.le_of_ble_eq_true rfl, Nat.le_of_ble_eq_true rfl⟩) ⟨fun a U g mk q => by obtain ⟨q0, q1, qP, qK, qD⟩ := q; exact ⟨q0, q1, qP, va_K.moved (u := U) (U := U.calling g mk a) (Vm.Alike.refl U.vm) qK, qD⟩, va_recv hK hP (ci := 4) (q0 := 0) rfl rfl, fun U hU hW => ⟨rfl, by rw [hU], by rw [hU]; exact hPc, va_K.moved hW.alike hKc, hDc.weaken (fun _ _ _ _ => trivial)⟩⟩ rfl rfl hl.1 rfl (lv_room (Nat.le_of_ble_eq_true rfl)) dX4_ownName_1 ⟨Nat.le_of_ble_eq_true rfl, Nat.le_of_ble_eq_true rfl⟩) hS (fun q _ h => hFc q h) hFc (fun r_2 u t H1 locs ht hvm hw hB hz1 hk1 hS => ?_)
  obtain ⟨hP1, hK1, hD1⟩ := hB
  rw [ht] at hP1
  try dsimp only at hw
  obtain ⟨hP, hD⟩ := va_join (wr := []) (w1 := [(rd, .inr (4, [.ref lenses_, .int 0, .int 0, .int 0, .int (-1), .int (-1), .ref tp, .ref names_, .ref quoted_, .ref links_, .ref walker2_, .int 0, .int 0, .int 0]))]) hP hD [0] [] rfl rfl (by decide) (by decide) hk1 hFc hP1 hD1
  clear hk1 hz1 hPc hDc hFc hP1 hD1 hK1 hKc
  generalize H1 = H at hP hS ⊢
  have hP : va_P (dC, dI) cls [(rd, .inr (4, [.ref lenses_, .int 0, .int 0, .int 0, .int (-1), .int (-1), .ref tp, .ref names_, .ref quoted_, .ref links_, .ref walker2_, .int 0, .int 0, .int 0]))] H := hP
  have hD : va_D A [(rd, .inr (4, [.ref lenses_, .int 0, .int 0, .int 0, .int (-1), .int (-1), .ref tp, .ref names_, .ref quoted_, .ref links_, .ref walker2_, .int 0, .int 0, .int 0]))] := hD
  obtain rfl := hw
  refine lv_pop hx hb dX4_ownName_4 rfl ?_
  refine lv_aload_n hx hb dX4_ownName_5 rfl (lv_at hl 0 rfl) ?_
  refine va_get (D := (dC, dI)) (ci := 4) (v := .int 0) (C := RX4) (T := TX4) (N := 14) hx hb hts ik_ownName_RX4 hown hK hP 0 rfl rfl 12 (by decide) (hts (.fieldLink RX4 62 "PutBack$Reader" "place" "I") (by decide +kernel)) (fun _ h9 => h9) rfl dX4_ownName_6 ?_
  refine lv_istore_n (lv' := [(1, .int 0), (0, .ref rd)]) hx hb dX4_ownName_9 rfl hl (by decide) rfl (fun ls hl => ?_)
  refine lv_aload_n hx hb dX4_ownName_10 rfl (lv_at hl 1 rfl) ?_
  have hPc := hP.sub (ws' := [(rd, .inr (4, [.ref lenses_, .int 0, .int 0, .int 0, .int (-1), .int (-1), .ref tp, .ref names_, .ref quoted_, .ref links_, .ref walker2_, .int 0, .int 0, .int 0]))]) [0] rfl
  have hDc := hD.sub (ws' := [(rd, .inr (4, [.ref lenses_, .int 0, .int 0, .int 0, .int (-1), .int (-1), .ref tp, .ref names_, .ref quoted_, .ref links_, .ref walker2_, .int 0, .int 0, .int 0]))]) [0] (by decide) rfl
  have hKc := hK.sub (tys' := []) [] rfl
  have hFc := va_free (wc := [(rd, .inr (4, [.ref lenses_, .int 0, .int 0, .int 0, .int (-1), .int (-1), .ref tp, .ref names_, .ref quoted_, .ref links_, .ref walker2_, .int 0, .int 0, .int 0]))]) hD hS hA [0] rfl
  refine va_calll (va_runV (As := []) (rest := []) ⟨hx, hb, hml, hown, hts⟩ (k_takeName l dC dI H.size rd lenses_ tp names_ quoted_ links_ walker2_) (cwV 0 hts gk_ownName_156 rfl rfl rfl (by decide +kernel) ⟨Nat.le_of_ble_eq_true rfl, Nat.le_of_ble_eq_true rfl⟩) ⟨fun a U g mk q => by obtain ⟨q0, q1, qP, qK, qD⟩ := q; exact ⟨q0, q1, qP, va_K.moved (u := U) (U := U.calling g mk a) (Vm.Alike.refl U.vm) qK, qD⟩, va_recv hK hP (ci := 4) (q0 := 0) rfl rfl, fun U hU hW => ⟨rfl, by rw [hU], by rw [hU]; exact hPc, va_K.moved hW.alike hKc, hDc.weaken (fun _ _ _ _ => trivial)⟩⟩ rfl rfl hl.1 rfl (lv_room (Nat.le_of_ble_eq_true rfl)) dX4_ownName_11 ⟨Nat.le_of_ble_eq_true rfl, Nat.le_of_ble_eq_true rfl⟩) hS (fun q _ h => hFc q h) hFc (fun r_4 u t H1 locs ht hvm hw hB hz1 hk1 hS => ?_)
  obtain ⟨hP1, hK1, hD1⟩ := hB
  rw [ht] at hP1
  try dsimp only at hw
  obtain ⟨hP, hD⟩ := va_join (wr := []) (w1 := [(rd, .inr (4, [.ref lenses_, .int 0, .int 0, .int 1, .int 0, .int (-1), .ref tp, .ref names_, .ref quoted_, .ref links_, .ref walker2_, .int 0, .int 0, .int 0]))]) hP hD [0] [] rfl rfl (by decide) (by decide) hk1 hFc hP1 hD1
  clear hk1 hz1 hPc hDc hFc hP1 hD1 hK1 hKc
  generalize H1 = H at hP hS ⊢
  have hP : va_P (dC, dI) cls [(rd, .inr (4, [.ref lenses_, .int 0, .int 0, .int 1, .int 0, .int (-1), .ref tp, .ref names_, .ref quoted_, .ref links_, .ref walker2_, .int 0, .int 0, .int 0]))] H := hP
  have hD : va_D A [(rd, .inr (4, [.ref lenses_, .int 0, .int 0, .int 1, .int 0, .int (-1), .ref tp, .ref names_, .ref quoted_, .ref links_, .ref walker2_, .int 0, .int 0, .int 0]))] := hD
  obtain rfl := hw
  refine lv_lstore_n (lv' := [(2, .long 0), (1, .int 0), (0, .ref rd)]) hx hb dX4_ownName_14 rfl hl (by decide) rfl (fun ls hl => ?_)
  refine lv_lload_n hx hb dX4_ownName_15 rfl (lv_at hl 0 rfl) ?_
  refine lv_lconst (v := 0) hx hb dX4_ownName_16 (by decide) ?_
  refine W.lcmp hx hb dX4_ownName_17 ?_
  refine lv_topi (fun z_5 ez_5 => ?_)
  obtain rfl : z_5 = (0 : Int32) := ez_5.trans (by decide)
  refine lv_if_ne (tgt := 23) hx hb dX4_ownName_18 (by decide) (fun c_6 => ?_) (fun c_6 => ?_)
  · exact (by revert c_6; decide : False).elim
  refine lv_lconst (v := 0) hx hb dX4_ownName_21 (by decide) ?_
  have hK9 := hK.sub (tys' := []) [] rfl
  have hP9 := hP.sub (ws' := [(rd, .inr (4, [.ref lenses_, .int 0, .int 0, .int 1, .int 0, .int (-1), .ref tp, .ref names_, .ref quoted_, .ref links_, .ref walker2_, .int 0, .int 0, .int 0]))]) [0] rfl
  have hD9 := hD.sub (ws' := [(rd, .inr (4, [.ref lenses_, .int 0, .int 0, .int 1, .int 0, .int (-1), .ref tp, .ref names_, .ref quoted_, .ref links_, .ref walker2_, .int 0, .int 0, .int 0]))]) [0] (by decide) rfl
  exact W.lret (v := 0) hx hb hr (fun t ht hW => ⟨⟨0, (), rfl, rfl, by rw [ht]; exact hP9, va_K.moved hW.alike hK9, hD9⟩, hS.F ht⟩) hS.2.2 dX4_ownName_22
def wk_readDefinition : List Cond := .code yX4_readDefinition cX4_readDefinition 6 (some .int) :: ([.fieldLink RX4 62 "PutBack$Reader" "place" "I", .fieldLink RX4 65 "PutBack$Reader" "opened" "I", .fieldLink RX4 68 "PutBack$Reader" "fault" "I", .fieldLink RX4 17 "PutBack$Reader" "faultPlace" "I", .fieldLink RX4 21 "PutBack$Reader" "shownBy" "I", .methodLink RX4 71 yX4_ownName, .instanceMethod yX4_ownName, .selects RX4 yX4_ownName yX4_ownName, .initialized RX4, .code yX4_ownName cX4_ownName 4 (some .long), .methodLink RX4 93 yX4_sign, .instanceMethod yX4_sign, .selects RX4 yX4_sign yX4_sign, .code yX4_sign cX4_sign 1 (some .int), .fieldLink RX4 43 "PutBack$Reader" "length" "I", .methodLink RX4 156 yX4_takeName, .instanceMethod yX4_takeName, .selects RX4 yX4_takeName yX4_takeName, .code yX4_takeName cX4_takeName 5 (some .long), .methodLink RX4 125 yX4_letters, .instanceMethod yX4_letters, .selects RX4 yX4_letters yX4_letters, .code yX4_letters cX4_letters 2 (some .int), .methodLink RX4 97 yX4_refuse, .instanceMethod yX4_refuse, .selects RX4 yX4_refuse yX4_refuse, .code yX4_refuse cX4_refuse 3 none] ++ wsX40)
theorem ik_readDefinition_RX4 : ∀ w ∈ u_ws RX4 TX4 14, w ∈ wk_readDefinition := fun w h => List.mem_cons_of_mem _ (List.mem_append_right _ h)
theorem gk_readDefinition_71g : GoodIn wk_readDefinition wk_ownName := goodIn_r _ [10, 11, 12, 13, 9, 14, 1, 15, 16, 17, 18, 19, 20, 21, 22, 23, 24, 25, 26, 27, 3, 4, 28, 29, 30, 31, 32, 33, 34, 35, 36, 37, 38, 39, 40, 41] (by decide +kernel) (by decide +kernel)
theorem gk_readDefinition_71 : GoodIn wk_readDefinition (wsV RX4 71 RX4 yX4_ownName wk_ownName) := goodIn_app (goodIn_of _ (by decide +kernel)) gk_readDefinition_71g
set_option maxHeartbeats 4000000 in
set_option maxRecDepth 100000 in
theorem k_readDefinition (l : Launch) (dC : Nat → ClassId) (dI : Nat → Nat → Nat) (sz : Nat) (rd : Nat) (lenses_ : Nat) (tp : Nat) (names_ : Nat) (quoted_ : Nat) (links_ : Nat) (walker2_ : Nat) : Met l yX4_readDefinition wk_readDefinition ({ frames := 4, cells := 0, slots := 0, locals := 88 } : Room) (va_Pc [.ref rd] (fun U => U.heap.size = sz ∧ va_P (dC, dI) cls [(rd, .inr (4, [.ref lenses_, .int 0, .int 0, .int 0, .int (-1), .int (-1), .ref tp, .ref names_, .ref quoted_, .ref links_, .ref walker2_, .int 0, .int 0, .int 0]))] U.heap ∧ va_K (dC, dI) cls [] U ∧ va_D (fun _ => True) [(rd, .inr (4, [.ref lenses_, .int 0, .int 0, .int 0, .int (-1), .int (-1), .ref tp, .ref names_, .ref quoted_, .ref links_, .ref walker2_, .int 0, .int 0, .int 0]))])) (va_Qi (fun (r : Int32) (_ : Unit) => r = -1) (fun (_ : Unit) t => va_P (dC, dI) cls [(rd, .inr (4, [.ref lenses_, .int 0, .int 0, .int 1, .int 0, .int (-1), .ref tp, .ref names_, .ref quoted_, .ref links_, .ref walker2_, .int 0, .int 0, .int 0]))] t.heap ∧ va_K (dC, dI) cls [] t ∧ va_D (va_A [(rd, .inr (4, [.ref lenses_, .int 0, .int 0, .int 0, .int (-1), .int (-1), .ref tp, .ref names_, .ref quoted_, .ref links_, .ref walker2_, .int 0, .int 0, .int 0]))] sz) [(rd, .inr (4, [.ref lenses_, .int 0, .int 0, .int 1, .int 0, .int (-1), .ref tp, .ref names_, .ref quoted_, .ref links_, .ref walker2_, .int 0, .int 0, .int 0]))]) (va_A [(rd, .inr (4, [.ref lenses_, .int 0, .int 0, .int 0, .int (-1), .int (-1), .ref tp, .ref names_, .ref quoted_, .ref links_, .ref walker2_, .int 0, .int 0, .int 0]))] sz)) 0 0 (va_A [(rd, .inr (4, [.ref lenses_, .int 0, .int 0, .int 0, .int (-1), .int (-1), .ref tp, .ref names_, .ref quoted_, .ref links_, .ref walker2_, .int 0, .int 0, .int 0]))] sz) := by
  refine Met.ofW (cc := cX4_readDefinition) (maxL := 6) (ret := (some .int)) (by decide) rfl ?_
  intro p e s m args below meth c s₁ B hml hv
  obtain ⟨rfl, hsz, hP, hK, hD0⟩ := hv
  have hx := B.exec
  have hb := B.bytes
  have hr := B.returns
  have hts := atoms_spec (ws := wk_readDefinition) B.pre
  have hown : s.vm.findClass RX4 = some m.cls := findClass_of_methodNamed B.named
  have hlocks := B.notSynchronized
  subst hsz
  have hD := hD0.self (sz := s.heap.size)
  generalize hAe : va_A [(rd, .inr (4, [.ref lenses_, .int 0, .int 0, .int 0, .int (-1), .int (-1), .ref tp, .ref names_, .ref quoted_, .ref links_, .ref walker2_, .int 0, .int 0, .int 0]))] s.heap.size = A at hD ⊢
  have hA : ∀ q : Nat, s.heap.size ≤ q → A q := fun q h => by rw [← hAe]; exact Or.inr h
  have hP : va_P (dC, dI) cls [(rd, .inr (4, [.ref lenses_, .int 0, .int 0, .int 0, .int (-1), .int (-1), .ref tp, .ref names_, .ref quoted_, .ref links_, .ref walker2_, .int 0, .int 0, .int 0]))] s.heap := hP
  have hl := lv_entry ([.ref rd]) (n := 6) (Nat.le_of_ble_eq_true rfl)
  rw [lg_entry_eq]
  generalize (lg_sl ([.ref rd]) ++ List.replicate (6 - (lg_sl ([.ref rd])).length) Slot.unset).toArray = ls at hl ⊢
  have hl : lv_has ls 6 [(0, .ref rd)] := hl
  obtain ⟨H, hH⟩ : ∃ H : Heap, s.heap = H := ⟨_, rfl⟩
  rw [hH] at hP ⊢
  have hS : va_S A s.heap H [] := by rw [← hH]; exact va_S.rf
  refine lv_aload_n hx hb dX4_readDefinition_0 rfl (lv_at hl 0 rfl) ?_
  refine lv_iconst (v := 0) hx hb dX4_readDefinition_1 (by decide) ?_
  refine va_put (D := (dC, dI)) (ci := 4) (v := .int 0) (ty := .int) (C := RX4) (T := TX4) (N := 14) hx hb hts ik_readDefinition_RX4 tyX4 tyX4_ok nmX4 hown hK hP hD hS 0 rfl rfl 12 (by decide) (hts (.fieldLink RX4 62 "PutBack$Reader" "place" "I") (by decide +kernel)) (fun _ h9 => h9) rfl (by decide +kernel) rfl rfl (Nat.le_of_ble_eq_true rfl) dX4_readDefinition_2 (fun H locs hP hD hS => ?_)
  have hP : va_P (dC, dI) cls [(rd, .inr (4, [.ref lenses_, .int 0, .int 0, .int 0, .int (-1), .int (-1), .ref tp, .ref names_, .ref quoted_, .ref links_, .ref walker2_, .int 0, .int 0, .int 0]))] H := hP
  have hD : va_D A [(rd, .inr (4, [.ref lenses_, .int 0, .int 0, .int 0, .int (-1), .int (-1), .ref tp, .ref names_, .ref quoted_, .ref links_, .ref walker2_, .int 0, .int 0, .int 0]))] := hD
  refine lv_aload_n hx hb dX4_readDefinition_5 rfl (lv_at hl 0 rfl) ?_
  refine lv_iconst (v := 0) hx hb dX4_readDefinition_6 (by decide) ?_
  refine va_put (D := (dC, dI)) (ci := 4) (v := .int 0) (ty := .int) (C := RX4) (T := TX4) (N := 14) hx hb hts ik_readDefinition_RX4 tyX4 tyX4_ok nmX4 hown hK hP hD hS 0 rfl rfl 13 (by decide) (hts (.fieldLink RX4 65 "PutBack$Reader" "opened" "I") (by decide +kernel)) (fun _ h9 => h9) rfl (by decide +kernel) rfl rfl (Nat.le_of_ble_eq_true rfl) dX4_readDefinition_7 (fun H locs hP hD hS => ?_)
  have hP : va_P (dC, dI) cls [(rd, .inr (4, [.ref lenses_, .int 0, .int 0, .int 0, .int (-1), .int (-1), .ref tp, .ref names_, .ref quoted_, .ref links_, .ref walker2_, .int 0, .int 0, .int 0]))] H := hP
  have hD : va_D A [(rd, .inr (4, [.ref lenses_, .int 0, .int 0, .int 0, .int (-1), .int (-1), .ref tp, .ref names_, .ref quoted_, .ref links_, .ref walker2_, .int 0, .int 0, .int 0]))] := hD
  refine lv_aload_n hx hb dX4_readDefinition_10 rfl (lv_at hl 0 rfl) ?_
  refine lv_iconst (v := 0) hx hb dX4_readDefinition_11 (by decide) ?_
  refine va_put (D := (dC, dI)) (ci := 4) (v := .int 0) (ty := .int) (C := RX4) (T := TX4) (N := 14) hx hb hts ik_readDefinition_RX4 tyX4 tyX4_ok nmX4 hown hK hP hD hS 0 rfl rfl 3 (by decide) (hts (.fieldLink RX4 68 "PutBack$Reader" "fault" "I") (by decide +kernel)) (fun _ h9 => h9) rfl (by decide +kernel) rfl rfl (Nat.le_of_ble_eq_true rfl) dX4_readDefinition_12 (fun H locs hP hD hS => ?_)
  have hP : va_P (dC, dI) cls [(rd, .inr (4, [.ref lenses_, .int 0, .int 0, .int 0, .int (-1), .int (-1), .ref tp, .ref names_, .ref quoted_, .ref links_, .ref walker2_, .int 0, .int 0, .int 0]))] H := hP
  have hD : va_D A [(rd, .inr (4, [.ref lenses_, .int 0, .int 0, .int 0, .int (-1), .int (-1), .ref tp, .ref names_, .ref quoted_, .ref links_, .ref walker2_, .int 0, .int 0, .int 0]))] := hD
  refine lv_aload_n hx hb dX4_readDefinition_15 rfl (lv_at hl 0 rfl) ?_
  refine lv_iconst (v := (-1)) hx hb dX4_readDefinition_16 (by decide) ?_
  refine va_put (D := (dC, dI)) (ci := 4) (v := .int (-1)) (ty := .int) (C := RX4) (T := TX4) (N := 14) hx hb hts ik_readDefinition_RX4 tyX4 tyX4_ok nmX4 hown hK hP hD hS 0 rfl rfl 4 (by decide) (hts (.fieldLink RX4 17 "PutBack$Reader" "faultPlace" "I") (by decide +kernel)) (fun _ h9 => h9) rfl (by decide +kernel) rfl rfl (Nat.le_of_ble_eq_true rfl) dX4_readDefinition_17 (fun H locs hP hD hS => ?_)
  have hP : va_P (dC, dI) cls [(rd, .inr (4, [.ref lenses_, .int 0, .int 0, .int 0, .int (-1), .int (-1), .ref tp, .ref names_, .ref quoted_, .ref links_, .ref walker2_, .int 0, .int 0, .int 0]))] H := hP
  have hD : va_D A [(rd, .inr (4, [.ref lenses_, .int 0, .int 0, .int 0, .int (-1), .int (-1), .ref tp, .ref names_, .ref quoted_, .ref links_, .ref walker2_, .int 0, .int 0, .int 0]))] := hD
  refine lv_aload_n hx hb dX4_readDefinition_20 rfl (lv_at hl 0 rfl) ?_
  refine lv_iconst (v := (-1)) hx hb dX4_readDefinition_21 (by decide) ?_
  refine va_put (D := (dC, dI)) (ci := 4) (v := .int (-1)) (ty := .int) (C := RX4) (T := TX4) (N := 14) hx hb hts ik_readDefinition_RX4 tyX4 tyX4_ok nmX4 hown hK hP hD hS 0 rfl rfl 5 (by decide) (hts (.fieldLink RX4 21 "PutBack$Reader" "shownBy" "I") (by decide +kernel)) (fun _ h9 => h9) rfl (by decide +kernel) rfl rfl (Nat.le_of_ble_eq_true rfl) dX4_readDefinition_22 (fun H locs hP hD hS => ?_)
  have hP : va_P (dC, dI) cls [(rd, .inr (4, [.ref lenses_, .int 0, .int 0, .int 0, .int (-1), .int (-1), .ref tp, .ref names_, .ref quoted_, .ref links_, .ref walker2_, .int 0, .int 0, .int 0]))] H := hP
  have hD : va_D A [(rd, .inr (4, [.ref lenses_, .int 0, .int 0, .int 0, .int (-1), .int (-1), .ref tp, .ref names_, .ref quoted_, .ref links_, .ref walker2_, .int 0, .int 0, .int 0]))] := hD
  refine lv_aload_n hx hb dX4_readDefinition_25 rfl (lv_at hl 0 rfl) ?_
  have hPc := hP.sub (ws' := [(rd, .inr (4, [.ref lenses_, .int 0, .int 0, .int 0, .int (-1), .int (-1), .ref tp, .ref names_, .ref quoted_, .ref links_, .ref walker2_, .int 0, .int 0, .int 0]))]) [0] rfl
  have hDc := hD.sub (ws' := [(rd, .inr (4, [.ref lenses_, .int 0, .int 0, .int 0, .int (-1), .int (-1), .ref tp, .ref names_, .ref quoted_, .ref links_, .ref walker2_, .int 0, .int 0, .int 0]))]) [0] (by decide) rfl
  have hKc := hK.sub (tys' := []) [] rfl
  have hFc := va_free (wc := [(rd, .inr (4, [.ref lenses_, .int 0, .int 0, .int 0, .int (-1), .int (-1), .ref tp, .ref names_, .ref quoted_, .ref links_, .ref walker2_, .int 0, .int 0, .int 0]))]) hD hS hA [0] rfl
  refine va_calll (va_runV (As := []) (rest := []) ⟨hx, hb, hml, hown, hts⟩ (k_ownName l dC dI H.size rd lenses_ tp names_ quoted_ links_ walker2_) (cwV 0 hts gk_readDefinition_71 rfl rfl rfl (by decide +kernel) ⟨Nat.le_of_ble_eq_true rfl, Nat.le_of_ble_eq_true rfl⟩) ⟨fun a U g mk q => by obtain ⟨q0, q1, qP, qK, qD⟩ := q; exact ⟨q0, q1, qP, va_K.moved (u := U) (U := U.calling g mk a) (Vm.Alike.refl U.vm) qK, qD⟩, va_recv hK hP (ci := 4) (q0 := 0) rfl rfl, fun U hU hW => ⟨rfl, by rw [hU], by rw [hU]; exact hPc, va_K.moved hW.alike hKc, hDc.weaken (fun _ _ _ _ => trivial)⟩⟩ rfl rfl hl.1 rfl (lv_room (Nat.le_of_ble_eq_true rfl)) dX4_readDefinition_26 ⟨Nat.le_of_ble_eq_true rfl, Nat.le_of_ble_eq_true rfl⟩) hS (fun q _ h => hFc q h) hFc (fun r_2 u t H1 locs ht hvm hw hB hz1 hk1 hS => ?_)
  obtain ⟨hP1, hK1, hD1⟩ := hB
  rw [ht] at hP1
  try dsimp only at hw
  obtain ⟨hP, hD⟩ := va_join (wr := []) (w1 := [(rd, .inr (4, [.ref lenses_, .int 0, .int 0, .int 1, .int 0, .int (-1), .ref tp, .ref names_, .ref quoted_, .ref links_, .ref walker2_, .int 0, .int 0, .int 0]))]) hP hD [0] [] rfl rfl (by decide) (by decide) hk1 hFc hP1 hD1
  clear hk1 hz1 hPc hDc hFc hP1 hD1 hK1 hKc
  generalize H1 = H at hP hS ⊢
  have hP : va_P (dC, dI) cls [(rd, .inr (4, [.ref lenses_, .int 0, .int 0, .int 1, .int 0, .int (-1), .ref tp, .ref names_, .ref quoted_, .ref links_, .ref walker2_, .int 0, .int 0, .int 0]))] H := hP
  have hD : va_D A [(rd, .inr (4, [.ref lenses_, .int 0, .int 0, .int 1, .int 0, .int (-1), .ref tp, .ref names_, .ref quoted_, .ref links_, .ref walker2_, .int 0, .int 0, .int 0]))] := hD
  obtain rfl := hw
  refine lv_lstore_n (lv' := [(1, .long 0), (0, .ref rd)]) hx hb dX4_readDefinition_29 rfl hl (by decide) rfl (fun ls hl => ?_)
  refine lv_lload_n hx hb dX4_readDefinition_30 rfl (lv_at hl 0 rfl) ?_
  refine lv_lconst (v := 0) hx hb dX4_readDefinition_31 (by decide) ?_
  refine W.lcmp hx hb dX4_readDefinition_32 ?_
  refine lv_topi (fun z_3 ez_3 => ?_)
  obtain rfl : z_3 = (0 : Int32) := ez_3.trans (by decide)
  refine lv_if_eq (tgt := 45) hx hb dX4_readDefinition_33 (by decide) (fun c_4 => ?_) (fun c_4 => ?_)
  rotate_left
  · exact (by revert c_4; decide : False).elim
  refine lv_iconst (v := (-1)) hx hb dX4_readDefinition_45 (by decide) ?_
  have hK9 := hK.sub (tys' := []) [] rfl
  have hP9 := hP.sub (ws' := [(rd, .inr (4, [.ref lenses_, .int 0, .int 0, .int 1, .int 0, .int (-1), .ref tp, .ref names_, .ref quoted_, .ref links_, .ref walker2_, .int 0, .int 0, .int 0]))]) [0] rfl
  have hD9 := hD.sub (ws' := [(rd, .inr (4, [.ref lenses_, .int 0, .int 0, .int 1, .int 0, .int (-1), .ref tp, .ref names_, .ref quoted_, .ref links_, .ref walker2_, .int 0, .int 0, .int 0]))]) [0] (by decide) rfl
  exact W.iret (v := (-1)) hx hb hr (fun t ht hW => ⟨⟨(-1), (), rfl, rfl, by rw [ht]; exact hP9, va_K.moved hW.alike hK9, hD9⟩, hS.F ht⟩) hS.2.2 dX4_readDefinition_46
def wk_lens : List Cond := .code yX11_lens cX11_lens 2 (some .int) :: ([.fieldLink RX11 27 "PutBack" "reader" "LPutBack$Reader;", .methodLink RX11 61 yX4_readDefinition, .instanceMethod yX4_readDefinition, .selects RX4 yX4_readDefinition yX4_readDefinition, .initialized RX4, .code yX4_readDefinition cX4_readDefinition 6 (some .int), .fieldLink RX4 62 "PutBack$Reader" "place" "I", .fieldLink RX4 65 "PutBack$Reader" "opened" "I", .fieldLink RX4 68 "PutBack$Reader" "fault" "I", .fieldLink RX4 17 "PutBack$Reader" "faultPlace" "I", .fieldLink RX4 21 "PutBack$Reader" "shownBy" "I", .methodLink RX4 71 yX4_ownName, .instanceMethod yX4_ownName, .selects RX4 yX4_ownName yX4_ownName, .code yX4_ownName cX4_ownName 4 (some .long), .methodLink RX4 93 yX4_sign, .instanceMethod yX4_sign, .selects RX4 yX4_sign yX4_sign, .code yX4_sign cX4_sign 1 (some .int), .fieldLink RX4 43 "PutBack$Reader" "length" "I", .methodLink RX4 156 yX4_takeName, .instanceMethod yX4_takeName, .selects RX4 yX4_takeName yX4_takeName, .code yX4_takeName cX4_takeName 5 (some .long), .methodLink RX4 125 yX4_letters, .instanceMethod yX4_letters, .selects RX4 yX4_letters yX4_letters, .code yX4_letters cX4_letters 2 (some .int), .methodLink RX4 97 yX4_refuse, .instanceMethod yX4_refuse, .selects RX4 yX4_refuse yX4_refuse, .code yX4_refuse cX4_refuse 3 none, .fieldLink RX11 53 "PutBack$Reader" "length" "I"] ++ wsX40 ++ wsX110)
theorem ik_lens_RX4 : ∀ w ∈ u_ws RX4 TX4 14, w ∈ wk_lens := fun w h => List.mem_cons_of_mem _ (List.mem_append_left _ (List.mem_append_right _ h))
theorem ik_lens_RX11 : ∀ w ∈ u_ws RX11 TX11 6, w ∈ wk_lens := fun w h => List.mem_cons_of_mem _ (List.mem_append_right _ h)
theorem gk_lens_61g : GoodIn wk_lens wk_readDefinition := goodIn_r _ [6, 7, 8, 9, 10, 11, 12, 13, 14, 5, 15, 16, 17, 18, 19, 20, 21, 22, 23, 24, 25, 26, 27, 28, 29, 30, 31, 32, 34, 35, 36, 37, 38, 39, 40, 41, 42, 43, 44, 45, 46, 47] (by decide +kernel) (by decide +kernel)
theorem gk_lens_61 : GoodIn wk_lens (wsV RX11 61 RX4 yX4_readDefinition wk_readDefinition) := goodIn_app (goodIn_of _ (by decide +kernel)) gk_lens_61g
set_option maxHeartbeats 4000000 in
set_option maxRecDepth 100000 in
theorem k_lens (l : Launch) (dC : Nat → ClassId) (dI : Nat → Nat → Nat) (sz : Nat) (h0 : Nat) (sl : Nat) (walker_ : Nat) (rd : Nat) (machine_ : Nat) (trial_ : Nat) (dk : Nat) (lenses_ : Nat) (tp : Nat) (names_ : Nat) (quoted_ : Nat) (links_ : Nat) (walker2_ : Nat) : Met l yX11_lens wk_lens ({ frames := 5, cells := 0, slots := 0, locals := 113 } : Room) (va_Pc [.ref h0] (fun U => U.heap.size = sz ∧ va_P (dC, dI) cls [(h0, .inr (11, [.ref sl, .ref walker_, .ref rd, .ref machine_, .ref trial_, .ref dk])), (rd, .inr (4, [.ref lenses_, .int 0, .int 0, .int 0, .int (-1), .int (-1), .ref tp, .ref names_, .ref quoted_, .ref links_, .ref walker2_, .int 0, .int 0, .int 0]))] U.heap ∧ va_K (dC, dI) cls [] U ∧ va_D (fun _ => True) [(h0, .inr (11, [.ref sl, .ref walker_, .ref rd, .ref machine_, .ref trial_, .ref dk])), (rd, .inr (4, [.ref lenses_, .int 0, .int 0, .int 0, .int (-1), .int (-1), .ref tp, .ref names_, .ref quoted_, .ref links_, .ref walker2_, .int 0, .int 0, .int 0]))])) (va_Qi (fun (r : Int32) (_ : Unit) => r = -1) (fun (_ : Unit) t => va_P (dC, dI) cls [] t.heap ∧ va_K (dC, dI) cls [] t ∧ va_D (va_A [(h0, .inr (11, [.ref sl, .ref walker_, .ref rd, .ref machine_, .ref trial_, .ref dk])), (rd, .inr (4, [.ref lenses_, .int 0, .int 0, .int 0, .int (-1), .int (-1), .ref tp, .ref names_, .ref quoted_, .ref links_, .ref walker2_, .int 0, .int 0, .int 0]))] sz) []) (va_A [(h0, .inr (11, [.ref sl, .ref walker_, .ref rd, .ref machine_, .ref trial_, .ref dk])), (rd, .inr (4, [.ref lenses_, .int 0, .int 0, .int 0, .int (-1), .int (-1), .ref tp, .ref names_, .ref quoted_, .ref links_, .ref walker2_, .int 0, .int 0, .int 0]))] sz)) 0 0 (va_A [(h0, .inr (11, [.ref sl, .ref walker_, .ref rd, .ref machine_, .ref trial_, .ref dk])), (rd, .inr (4, [.ref lenses_, .int 0, .int 0, .int 0, .int (-1), .int (-1), .ref tp, .ref names_, .ref quoted_, .ref links_, .ref walker2_, .int 0, .int 0, .int 0]))] sz) := by
  refine Met.ofW (cc := cX11_lens) (maxL := 2) (ret := (some .int)) (by decide) rfl ?_
  intro p e s m args below meth c s₁ B hml hv
  obtain ⟨rfl, hsz, hP, hK, hD0⟩ := hv
  have hx := B.exec
  have hb := B.bytes
  have hr := B.returns
  have hts := atoms_spec (ws := wk_lens) B.pre
  have hown : s.vm.findClass RX11 = some m.cls := findClass_of_methodNamed B.named
  have hlocks := B.notSynchronized
  subst hsz
  have hD := hD0.self (sz := s.heap.size)
  generalize hAe : va_A [(h0, .inr (11, [.ref sl, .ref walker_, .ref rd, .ref machine_, .ref trial_, .ref dk])), (rd, .inr (4, [.ref lenses_, .int 0, .int 0, .int 0, .int (-1), .int (-1), .ref tp, .ref names_, .ref quoted_, .ref links_, .ref walker2_, .int 0, .int 0, .int 0]))] s.heap.size = A at hD ⊢
  have hA : ∀ q : Nat, s.heap.size ≤ q → A q := fun q h => by rw [← hAe]; exact Or.inr h
  have hP : va_P (dC, dI) cls [(h0, .inr (11, [.ref sl, .ref walker_, .ref rd, .ref machine_, .ref trial_, .ref dk])), (rd, .inr (4, [.ref lenses_, .int 0, .int 0, .int 0, .int (-1), .int (-1), .ref tp, .ref names_, .ref quoted_, .ref links_, .ref walker2_, .int 0, .int 0, .int 0]))] s.heap := hP
  have hl := lv_entry ([.ref h0]) (n := 2) (Nat.le_of_ble_eq_true rfl)
  rw [lg_entry_eq]
  generalize (lg_sl ([.ref h0]) ++ List.replicate (2 - (lg_sl ([.ref h0])).length) Slot.unset).toArray = ls at hl ⊢
  have hl : lv_has ls 2 [(0, .ref h0)] := hl
  obtain ⟨H, hH⟩ : ∃ H : Heap, s.heap = H := ⟨_, rfl⟩
  rw [hH] at hP ⊢
  have hS : va_S A s.heap H [] := by rw [← hH]; exact va_S.rf
  refine lv_aload_n hx hb dX11_lens_0 rfl (lv_at hl 0 rfl) ?_
  refine va_get (D := (dC, dI)) (ci := 11) (v := .ref rd) (C := RX11) (T := TX11) (N := 6) hx hb hts ik_lens_RX11 hown hK hP 0 rfl rfl 2 (by decide) (hts (.fieldLink RX11 27 "PutBack" "reader" "LPutBack$Reader;") (by decide +kernel)) (fun _ h9 => h9) rfl dX11_lens_1 ?_
  have hPc := hP.sub (ws' := [(rd, .inr (4, [.ref lenses_, .int 0, .int 0, .int 0, .int (-1), .int (-1), .ref tp, .ref names_, .ref quoted_, .ref links_, .ref walker2_, .int 0, .int 0, .int 0]))]) [1] rfl
  have hDc := hD.sub (ws' := [(rd, .inr (4, [.ref lenses_, .int 0, .int 0, .int 0, .int (-1), .int (-1), .ref tp, .ref names_, .ref quoted_, .ref links_, .ref walker2_, .int 0, .int 0, .int 0]))]) [1] (by decide) rfl
  have hKc := hK.sub (tys' := []) [] rfl
  have hFc := va_free (wc := [(rd, .inr (4, [.ref lenses_, .int 0, .int 0, .int 0, .int (-1), .int (-1), .ref tp, .ref names_, .ref quoted_, .ref links_, .ref walker2_, .int 0, .int 0, .int 0]))]) hD hS hA [1] rfl
  refine va_calli (va_runV (As := []) (rest := []) ⟨hx, hb, hml, hown, hts⟩ (k_readDefinition l dC dI H.size rd lenses_ tp names_ quoted_ links_ walker2_) (cwV 0 hts gk_lens_61 rfl rfl rfl (by decide +kernel) ⟨Nat.le_of_ble_eq_true rfl, Nat.le_of_ble_eq_true rfl⟩) ⟨fun a U g mk q => by obtain ⟨q0, q1, qP, qK, qD⟩ := q; exact ⟨q0, q1, qP, va_K.moved (u := U) (U := U.calling g mk a) (Vm.Alike.refl U.vm) qK, qD⟩, va_recv hK hP (ci := 4) (q0 := 1) rfl rfl, fun U hU hW => ⟨rfl, by rw [hU], by rw [hU]; exact hPc, va_K.moved hW.alike hKc, hDc.weaken (fun _ _ _ _ => trivial)⟩⟩ rfl rfl hl.1 rfl (lv_room (Nat.le_of_ble_eq_true rfl)) dX11_lens_4 ⟨Nat.le_of_ble_eq_true rfl, Nat.le_of_ble_eq_true rfl⟩) hS (fun q _ h => hFc q h) hFc (fun r_2 u t H1 locs ht hvm hw hB hz1 hk1 hS => ?_)
  obtain ⟨hP1, hK1, hD1⟩ := hB
  rw [ht] at hP1
  try dsimp only at hw
  obtain ⟨hP, hD⟩ := va_join (wr := [(h0, .inr (11, [.ref sl, .ref walker_, .ref rd, .ref machine_, .ref trial_, .ref dk]))]) (w1 := [(rd, .inr (4, [.ref lenses_, .int 0, .int 0, .int 1, .int 0, .int (-1), .ref tp, .ref names_, .ref quoted_, .ref links_, .ref walker2_, .int 0, .int 0, .int 0]))]) hP hD [1] [0] rfl rfl (by decide) (by decide) hk1 hFc hP1 hD1
  clear hk1 hz1 hPc hDc hFc hP1 hD1 hK1 hKc
  generalize H1 = H at hP hS ⊢
  have hP : va_P (dC, dI) cls [(h0, .inr (11, [.ref sl, .ref walker_, .ref rd, .ref machine_, .ref trial_, .ref dk])), (rd, .inr (4, [.ref lenses_, .int 0, .int 0, .int 1, .int 0, .int (-1), .ref tp, .ref names_, .ref quoted_, .ref links_, .ref walker2_, .int 0, .int 0, .int 0]))] H := hP
  have hD : va_D A [(h0, .inr (11, [.ref sl, .ref walker_, .ref rd, .ref machine_, .ref trial_, .ref dk])), (rd, .inr (4, [.ref lenses_, .int 0, .int 0, .int 1, .int 0, .int (-1), .ref tp, .ref names_, .ref quoted_, .ref links_, .ref walker2_, .int 0, .int 0, .int 0]))] := hD
  obtain rfl := hw
  refine lv_istore_n (lv' := [(1, .int (-1)), (0, .ref h0)]) hx hb dX11_lens_7 rfl hl (by decide) rfl (fun ls hl => ?_)
  refine lv_aload_n hx hb dX11_lens_8 rfl (lv_at hl 1 rfl) ?_
  refine va_get (D := (dC, dI)) (ci := 11) (v := .ref rd) (C := RX11) (T := TX11) (N := 6) hx hb hts ik_lens_RX11 hown hK hP 0 rfl rfl 2 (by decide) (hts (.fieldLink RX11 27 "PutBack" "reader" "LPutBack$Reader;") (by decide +kernel)) (fun _ h9 => h9) rfl dX11_lens_9 ?_
  refine lv_iconst (v := 0) hx hb dX11_lens_12 (by decide) ?_
  refine va_put (D := (dC, dI)) (ci := 4) (v := .int 0) (ty := .int) (C := RX4) (T := TX4) (N := 14) hx hb hts ik_lens_RX4 tyX4 tyX4_ok nmX4 hown hK hP hD hS 1 rfl rfl 2 (by decide) (hts (.fieldLink RX11 53 "PutBack$Reader" "length" "I") (by decide +kernel)) (fun _ h9 => h9) rfl (by decide +kernel) rfl rfl (Nat.le_of_ble_eq_true rfl) dX11_lens_13 (fun H locs hP hD hS => ?_)
  have hP : va_P (dC, dI) cls [(h0, .inr (11, [.ref sl, .ref walker_, .ref rd, .ref machine_, .ref trial_, .ref dk])), (rd, .inr (4, [.ref lenses_, .int 0, .int 0, .int 1, .int 0, .int (-1), .ref tp, .ref names_, .ref quoted_, .ref links_, .ref walker2_, .int 0, .int 0, .int 0]))] H := hP
  have hD : va_D A [(h0, .inr (11, [.ref sl, .ref walker_, .ref rd, .ref machine_, .ref trial_, .ref dk])), (rd, .inr (4, [.ref lenses_, .int 0, .int 0, .int 1, .int 0, .int (-1), .ref tp, .ref names_, .ref quoted_, .ref links_, .ref walker2_, .int 0, .int 0, .int 0]))] := hD
  refine lv_iload_n hx hb dX11_lens_16 rfl (lv_at hl 0 rfl) ?_
  have hK9 := hK.sub (tys' := []) [] rfl
  have hP9 := hP.sub (ws' := []) [] rfl
  have hD9 := hD.sub (ws' := []) [] (by decide) rfl
  exact W.iret (v := (-1)) hx hb hr (fun t ht hW => ⟨⟨(-1), (), rfl, rfl, by rw [ht]; exact hP9, va_K.moved hW.alike hK9, hD9⟩, hS.F ht⟩) hS.2.2 dX11_lens_17
def wk_take0 : List Cond := .code yX4_take cX4_take 3 none :: ([.fieldLink RX4 43 "PutBack$Reader" "length" "I", .fieldLink RX4 24 "PutBack$Reader" "tape" "[I"] ++ wsX40)
theorem ik_take0_RX4 : ∀ w ∈ u_ws RX4 TX4 14, w ∈ wk_take0 := fun w h => List.mem_cons_of_mem _ (List.mem_append_right _ h)
set_option maxHeartbeats 4000000 in
set_option maxRecDepth 100000 in
theorem k_take0 (l : Launch) (dC : Nat → ClassId) (dI : Nat → Nat → Nat) (sz : Nat) (rd : Nat) (v1 : Int32) (lenses_ : Nat) (tp : Nat) (names_ : Nat) (quoted_ : Nat) (links_ : Nat) (walker2_ : Nat) (cI : ClassId) (fA : Nat → Int32) : Met l yX4_take wk_take0 ({ frames := 0, cells := 0, slots := 0, locals := 0 } : Room) (va_Pc [.ref rd, .int v1] (fun U => U.heap.size = sz ∧ va_P (dC, dI) cls [(rd, .inr (4, [.ref lenses_, .int 0, .int 0, .int 0, .int (-1), .int (-1), .ref tp, .ref names_, .ref quoted_, .ref links_, .ref walker2_, .int 0, .int 0, .int 0])), (tp, .inl (cI, 600, .inl fA))] U.heap ∧ va_K (dC, dI) cls [(cI, .int)] U ∧ va_D (fun _ => True) [(rd, .inr (4, [.ref lenses_, .int 0, .int 0, .int 0, .int (-1), .int (-1), .ref tp, .ref names_, .ref quoted_, .ref links_, .ref walker2_, .int 0, .int 0, .int 0])), (tp, .inl (cI, 600, .inl fA))])) (va_Qv (fun _ : Unit => True) (fun (_ : Unit) t => ∃ gT : Nat → Int32, va_P (dC, dI) cls [(rd, .inr (4, [.ref lenses_, .int 0, .int 4, .int 0, .int (-1), .int (-1), .ref tp, .ref names_, .ref quoted_, .ref links_, .ref walker2_, .int 0, .int 0, .int 0])), (tp, .inl (cI, 600, .inl gT))] t.heap ∧ va_K (dC, dI) cls [(cI, .int)] t ∧ va_D (va_A [(rd, .inr (4, [.ref lenses_, .int 0, .int 0, .int 0, .int (-1), .int (-1), .ref tp, .ref names_, .ref quoted_, .ref links_, .ref walker2_, .int 0, .int 0, .int 0])), (tp, .inl (cI, 600, .inl fA))] sz) [(rd, .inr (4, [.ref lenses_, .int 0, .int 4, .int 0, .int (-1), .int (-1), .ref tp, .ref names_, .ref quoted_, .ref links_, .ref walker2_, .int 0, .int 0, .int 0])), (tp, .inl (cI, 600, .inl gT))]) (va_A [(rd, .inr (4, [.ref lenses_, .int 0, .int 0, .int 0, .int (-1), .int (-1), .ref tp, .ref names_, .ref quoted_, .ref links_, .ref walker2_, .int 0, .int 0, .int 0])), (tp, .inl (cI, 600, .inl fA))] sz)) 0 0 (va_A [(rd, .inr (4, [.ref lenses_, .int 0, .int 0, .int 0, .int (-1), .int (-1), .ref tp, .ref names_, .ref quoted_, .ref links_, .ref walker2_, .int 0, .int 0, .int 0])), (tp, .inl (cI, 600, .inl fA))] sz) := by
  refine Met.ofW (cc := cX4_take) (maxL := 3) (ret := none) (by decide) rfl ?_
  intro p e s m args below meth c s₁ B hml hv
  obtain ⟨rfl, hsz, hP, hK, hD0⟩ := hv
  have hx := B.exec
  have hb := B.bytes
  have hr := B.returns
  have hts := atoms_spec (ws := wk_take0) B.pre
  have hown : s.vm.findClass RX4 = some m.cls := findClass_of_methodNamed B.named
  have hlocks := B.notSynchronized
  subst hsz
  have hD := hD0.self (sz := s.heap.size)
  generalize hAe : va_A [(rd, .inr (4, [.ref lenses_, .int 0, .int 0, .int 0, .int (-1), .int (-1), .ref tp, .ref names_, .ref quoted_, .ref links_, .ref walker2_, .int 0, .int 0, .int 0])), (tp, .inl (cI, 600, .inl fA))] s.heap.size = A at hD ⊢
  have hA : ∀ q : Nat, s.heap.size ≤ q → A q := fun q h => by rw [← hAe]; exact Or.inr h
  have hP : va_P (dC, dI) cls [(rd, .inr (4, [.ref lenses_, .int 0, .int 0, .int 0, .int (-1), .int (-1), .ref tp, .ref names_, .ref quoted_, .ref links_, .ref walker2_, .int 0, .int 0, .int 0])), (tp, .inl (cI, 600, .inl fA))] s.heap := hP
  have hl := lv_entry ([.ref rd, .int v1]) (n := 3) (Nat.le_of_ble_eq_true rfl)
  rw [lg_entry_eq]
  generalize (lg_sl ([.ref rd, .int v1]) ++ List.replicate (3 - (lg_sl ([.ref rd, .int v1])).length) Slot.unset).toArray = ls at hl ⊢
  have hl : lv_has ls 3 [(0, .ref rd), (1, .int v1)] := hl
  obtain ⟨H, hH⟩ : ∃ H : Heap, s.heap = H := ⟨_, rfl⟩
  rw [hH] at hP ⊢
  have hS : va_S A s.heap H [] := by rw [← hH]; exact va_S.rf
  refine lv_bipush (v := 24) hx hb dX4_take_0 (by decide) ?_
  refine lv_istore_n (lv' := [(2, .int 24), (0, .ref rd), (1, .int v1)]) hx hb dX4_take_2 rfl hl (by decide) rfl (fun ls hl => ?_)
  refine lv_iload_n hx hb dX4_take_3 rfl (lv_at hl 0 rfl) ?_
  refine lv_if_lt (tgt := 49) hx hb dX4_take_4 (by decide) (fun c_1 => ?_) (fun c_1 => ?_)
  · exact (by revert c_1; decide : False).elim
  refine lv_aload_n hx hb dX4_take_7 rfl (lv_at hl 1 rfl) ?_
  refine va_get (D := (dC, dI)) (ci := 4) (v := .int 0) (C := RX4) (T := TX4) (N := 14) hx hb hts ik_take0_RX4 hown hK hP 0 rfl rfl 2 (by decide) (hts (.fieldLink RX4 43 "PutBack$Reader" "length" "I") (by decide +kernel)) (fun _ h9 => h9) rfl dX4_take_8 ?_
  refine lv_sipush (v := 600) hx hb dX4_take_11 (by decide) ?_
  refine lv_icmp_ge (tgt := 49) hx hb dX4_take_14 (by decide) (fun c_2 => ?_) (fun c_2 => ?_)
  · exact (by revert c_2; decide : False).elim
  refine lv_aload_n hx hb dX4_take_17 rfl (lv_at hl 1 rfl) ?_
  refine va_get (D := (dC, dI)) (ci := 4) (v := .ref tp) (C := RX4) (T := TX4) (N := 14) hx hb hts ik_take0_RX4 hown hK hP 0 rfl rfl 6 (by decide) (hts (.fieldLink RX4 24 "PutBack$Reader" "tape" "[I") (by decide +kernel)) (fun _ h9 => h9) rfl dX4_take_18 ?_
  refine lv_aload_n hx hb dX4_take_21 rfl (lv_at hl 1 rfl) ?_
  refine va_get (D := (dC, dI)) (ci := 4) (v := .int 0) (C := RX4) (T := TX4) (N := 14) hx hb hts ik_take0_RX4 hown hK hP 0 rfl rfl 2 (by decide) (hts (.fieldLink RX4 43 "PutBack$Reader" "length" "I") (by decide +kernel)) (fun _ h9 => h9) rfl dX4_take_22 ?_
  refine lv_iload_n hx hb dX4_take_25 rfl (lv_at hl 2 rfl) ?_
  refine lv_iload_n hx hb dX4_take_26 rfl (lv_at hl 0 rfl) ?_
  refine lv_iushr hx hb dX4_take_27 rfl ?_
  refine lv_topi (fun z_3 ez_3 => ?_)
  refine lv_sipush (v := 255) hx hb dX4_take_28 (by decide) ?_
  refine lv_iand hx hb dX4_take_31 ?_
  refine lv_topi (fun z_4 ez_4 => ?_)
  refine va_iast hx hb hK hP hD hS 1 0 rfl rfl (by unfold vp_in; decide) dX4_take_32 (fun H locs hP hD hS => ?_)
  have hP : va_P (dC, dI) cls [(rd, .inr (4, [.ref lenses_, .int 0, .int 0, .int 0, .int (-1), .int (-1), .ref tp, .ref names_, .ref quoted_, .ref links_, .ref walker2_, .int 0, .int 0, .int 0])), (tp, .inl (cI, 600, .inl (upd fA (0 : Int32).toNatClampNeg z_4)))] H := hP
  have hD : va_D A [(rd, .inr (4, [.ref lenses_, .int 0, .int 0, .int 0, .int (-1), .int (-1), .ref tp, .ref names_, .ref quoted_, .ref links_, .ref walker2_, .int 0, .int 0, .int 0])), (tp, .inl (cI, 600, .inl (upd fA (0 : Int32).toNatClampNeg z_4)))] := hD
  generalize (upd fA (0 : Int32).toNatClampNeg z_4) = g_5 at hP hD
  refine lv_aload_n hx hb dX4_take_33 rfl (lv_at hl 1 rfl) ?_
  refine lv_dup hx hb dX4_take_34 rfl ?_
  refine va_get (D := (dC, dI)) (ci := 4) (v := .int 0) (C := RX4) (T := TX4) (N := 14) hx hb hts ik_take0_RX4 hown hK hP 0 rfl rfl 2 (by decide) (hts (.fieldLink RX4 43 "PutBack$Reader" "length" "I") (by decide +kernel)) (fun _ h9 => h9) rfl dX4_take_35 ?_
  refine lv_iconst (v := 1) hx hb dX4_take_38 (by decide) ?_
  refine lv_iadd hx hb dX4_take_39 ?_
  refine lv_topi (fun z_6 ez_6 => ?_)
  obtain rfl : z_6 = (1 : Int32) := ez_6.trans (by decide)
  refine va_put (D := (dC, dI)) (ci := 4) (v := .int 1) (ty := .int) (C := RX4) (T := TX4) (N := 14) hx hb hts ik_take0_RX4 tyX4 tyX4_ok nmX4 hown hK hP hD hS 0 rfl rfl 2 (by decide) (hts (.fieldLink RX4 43 "PutBack$Reader" "length" "I") (by decide +kernel)) (fun _ h9 => h9) rfl (by decide +kernel) rfl rfl (Nat.le_of_ble_eq_true rfl) dX4_take_40 (fun H locs hP hD hS => ?_)
  have hP : va_P (dC, dI) cls [(rd, .inr (4, [.ref lenses_, .int 0, .int 1, .int 0, .int (-1), .int (-1), .ref tp, .ref names_, .ref quoted_, .ref links_, .ref walker2_, .int 0, .int 0, .int 0])), (tp, .inl (cI, 600, .inl g_5))] H := hP
  have hD : va_D A [(rd, .inr (4, [.ref lenses_, .int 0, .int 1, .int 0, .int (-1), .int (-1), .ref tp, .ref names_, .ref quoted_, .ref links_, .ref walker2_, .int 0, .int 0, .int 0])), (tp, .inl (cI, 600, .inl g_5))] := hD
  refine lv_iinc (v := 16) (lv' := [(2, .int 16), (0, .ref rd), (1, .int v1)]) hx hb dX4_take_43 hl (k := 0) rfl (by decide) (by decide) rfl (fun ls hl => ?_)
  refine lv_goto (tgt := 3) hx hb dX4_take_46 (by decide) ?_
  refine lv_iload_n hx hb dX4_take_3 rfl (lv_at hl 0 rfl) ?_
  refine lv_if_lt (tgt := 49) hx hb dX4_take_4 (by decide) (fun c_7 => ?_) (fun c_7 => ?_)
  · exact (by revert c_7; decide : False).elim
  refine lv_aload_n hx hb dX4_take_7 rfl (lv_at hl 1 rfl) ?_
  refine va_get (D := (dC, dI)) (ci := 4) (v := .int 1) (C := RX4) (T := TX4) (N := 14) hx hb hts ik_take0_RX4 hown hK hP 0 rfl rfl 2 (by decide) (hts (.fieldLink RX4 43 "PutBack$Reader" "length" "I") (by decide +kernel)) (fun _ h9 => h9) rfl dX4_take_8 ?_
  refine lv_sipush (v := 600) hx hb dX4_take_11 (by decide) ?_
  refine lv_icmp_ge (tgt := 49) hx hb dX4_take_14 (by decide) (fun c_8 => ?_) (fun c_8 => ?_)
  · exact (by revert c_8; decide : False).elim
  refine lv_aload_n hx hb dX4_take_17 rfl (lv_at hl 1 rfl) ?_
  refine va_get (D := (dC, dI)) (ci := 4) (v := .ref tp) (C := RX4) (T := TX4) (N := 14) hx hb hts ik_take0_RX4 hown hK hP 0 rfl rfl 6 (by decide) (hts (.fieldLink RX4 24 "PutBack$Reader" "tape" "[I") (by decide +kernel)) (fun _ h9 => h9) rfl dX4_take_18 ?_
  refine lv_aload_n hx hb dX4_take_21 rfl (lv_at hl 1 rfl) ?_
  refine va_get (D := (dC, dI)) (ci := 4) (v := .int 1) (C := RX4) (T := TX4) (N := 14) hx hb hts ik_take0_RX4 hown hK hP 0 rfl rfl 2 (by decide) (hts (.fieldLink RX4 43 "PutBack$Reader" "length" "I") (by decide +kernel)) (fun _ h9 => h9) rfl dX4_take_22 ?_
  refine lv_iload_n hx hb dX4_take_25 rfl (lv_at hl 2 rfl) ?_
  refine lv_iload_n hx hb dX4_take_26 rfl (lv_at hl 0 rfl) ?_
  refine lv_iushr hx hb dX4_take_27 rfl ?_
  refine lv_topi (fun z_9 ez_9 => ?_)
  refine lv_sipush (v := 255) hx hb dX4_take_28 (by decide) ?_
  refine lv_iand hx hb dX4_take_31 ?_
  refine lv_topi (fun z_10 ez_10 => ?_)
  refine va_iast hx hb hK hP hD hS 1 0 rfl rfl (by unfold vp_in; decide) dX4_take_32 (fun H locs hP hD hS => ?_)
  have hP : va_P (dC, dI) cls [(rd, .inr (4, [.ref lenses_, .int 0, .int 1, .int 0, .int (-1), .int (-1), .ref tp, .ref names_, .ref quoted_, .ref links_, .ref walker2_, .int 0, .int 0, .int 0])), (tp, .inl (cI, 600, .inl (upd g_5 (1 : Int32).toNatClampNeg z_10)))] H := hP
  have hD : va_D A [(rd, .inr (4, [.ref lenses_, .int 0, .int 1, .int 0, .int (-1), .int (-1), .ref tp, .ref names_, .ref quoted_, .ref links_, .ref walker2_, .int 0, .int 0, .int 0])), (tp, .inl (cI, 600, .inl (upd g_5 (1 : Int32).toNatClampNeg z_10)))] := hD
  generalize (upd g_5 (1 : Int32).toNatClampNeg z_10) = g_11 at hP hD
  refine lv_aload_n hx hb dX4_take_33 rfl (lv_at hl 1 rfl) ?_
  refine lv_dup hx hb dX4_take_34 rfl ?_
  refine va_get (D := (dC, dI)) (ci := 4) (v := .int 1) (C := RX4) (T := TX4) (N := 14) hx hb hts ik_take0_RX4 hown hK hP 0 rfl rfl 2 (by decide) (hts (.fieldLink RX4 43 "PutBack$Reader" "length" "I") (by decide +kernel)) (fun _ h9 => h9) rfl dX4_take_35 ?_
  refine lv_iconst (v := 1) hx hb dX4_take_38 (by decide) ?_
  refine lv_iadd hx hb dX4_take_39 ?_
  refine lv_topi (fun z_12 ez_12 => ?_)
  obtain rfl : z_12 = (2 : Int32) := ez_12.trans (by decide)
  refine va_put (D := (dC, dI)) (ci := 4) (v := .int 2) (ty := .int) (C := RX4) (T := TX4) (N := 14) hx hb hts ik_take0_RX4 tyX4 tyX4_ok nmX4 hown hK hP hD hS 0 rfl rfl 2 (by decide) (hts (.fieldLink RX4 43 "PutBack$Reader" "length" "I") (by decide +kernel)) (fun _ h9 => h9) rfl (by decide +kernel) rfl rfl (Nat.le_of_ble_eq_true rfl) dX4_take_40 (fun H locs hP hD hS => ?_)
  have hP : va_P (dC, dI) cls [(rd, .inr (4, [.ref lenses_, .int 0, .int 2, .int 0, .int (-1), .int (-1), .ref tp, .ref names_, .ref quoted_, .ref links_, .ref walker2_, .int 0, .int 0, .int 0])), (tp, .inl (cI, 600, .inl g_11))] H := hP
  have hD : va_D A [(rd, .inr (4, [.ref lenses_, .int 0, .int 2, .int 0, .int (-1), .int (-1), .ref tp, .ref names_, .ref quoted_, .ref links_, .ref walker2_, .int 0, .int 0, .int 0])), (tp, .inl (cI, 600, .inl g_11))] := hD
  refine lv_iinc (v := 8) (lv' := [(2, .int 8), (0, .ref rd), (1, .int v1)]) hx hb dX4_take_43 hl (k := 0) rfl (by decide) (by decide) rfl (fun ls hl => ?_)
  refine lv_goto (tgt := 3) hx hb dX4_take_46 (by decide) ?_
  refine lv_iload_n hx hb dX4_take_3 rfl (lv_at hl 0 rfl) ?_
  refine lv_if_lt (tgt := 49) hx hb dX4_take_4 (by decide) (fun c_13 => ?_) (fun c_13 => ?_)
  · exact (by revert c_13; decide : False).elim
  refine lv_aload_n hx hb dX4_take_7 rfl (lv_at hl 1 rfl) ?_
  refine va_get (D := (dC, dI)) (ci := 4) (v := .int 2) (C := RX4) (T := TX4) (N := 14) hx hb hts ik_take0_RX4 hown hK hP 0 rfl rfl 2 (by decide) (hts (.fieldLink RX4 43 "PutBack$Reader" "length" "I") (by decide +kernel)) (fun _ h9 => h9) rfl dX4_take_8 ?_
  refine lv_sipush (v := 600) hx hb dX4_take_11 (by decide) ?_
  refine lv_icmp_ge (tgt := 49) hx hb dX4_take_14 (by decide) (fun c_14 => ?_) (fun c_14 => ?_)
  · exact (by revert c_14; decide : False).elim
  refine lv_aload_n hx hb dX4_take_17 rfl (lv_at hl 1 rfl) ?_
  refine va_get (D := (dC, dI)) (ci := 4) (v := .ref tp) (C := RX4) (T := TX4) (N := 14) hx hb hts ik_take0_RX4 hown hK hP 0 rfl rfl 6 (by decide) (hts (.fieldLink RX4 24 "PutBack$Reader" "tape" "[I") (by decide +kernel)) (fun _ h9 => h9) rfl dX4_take_18 ?_
  refine lv_aload_n hx hb dX4_take_21 rfl (lv_at hl 1 rfl) ?_
  refine va_get (D := (dC, dI)) (ci := 4) (v := .int 2) (C := RX4) (T := TX4) (N := 14) hx hb hts ik_take0_RX4 hown hK hP 0 rfl rfl 2 (by decide) (hts (.fieldLink RX4 43 "PutBack$Reader" "length" "I") (by decide +kernel)) (fun _ h9 => h9) rfl dX4_take_22 ?_
  refine lv_iload_n hx hb dX4_take_25 rfl (lv_at hl 2 rfl) ?_
  refine lv_iload_n hx hb dX4_take_26 rfl (lv_at hl 0 rfl) ?_
  refine lv_iushr hx hb dX4_take_27 rfl ?_
  refine lv_topi (fun z_15 ez_15 => ?_)
  refine lv_sipush (v := 255) hx hb dX4_take_28 (by decide) ?_
  refine lv_iand hx hb dX4_take_31 ?_
  refine lv_topi (fun z_16 ez_16 => ?_)
  refine va_iast hx hb hK hP hD hS 1 0 rfl rfl (by unfold vp_in; decide) dX4_take_32 (fun H locs hP hD hS => ?_)
  have hP : va_P (dC, dI) cls [(rd, .inr (4, [.ref lenses_, .int 0, .int 2, .int 0, .int (-1), .int (-1), .ref tp, .ref names_, .ref quoted_, .ref links_, .ref walker2_, .int 0, .int 0, .int 0])), (tp, .inl (cI, 600, .inl (upd g_11 (2 : Int32).toNatClampNeg z_16)))] H := hP
  have hD : va_D A [(rd, .inr (4, [.ref lenses_, .int 0, .int 2, .int 0, .int (-1), .int (-1), .ref tp, .ref names_, .ref quoted_, .ref links_, .ref walker2_, .int 0, .int 0, .int 0])), (tp, .inl (cI, 600, .inl (upd g_11 (2 : Int32).toNatClampNeg z_16)))] := hD
  generalize (upd g_11 (2 : Int32).toNatClampNeg z_16) = g_17 at hP hD
  refine lv_aload_n hx hb dX4_take_33 rfl (lv_at hl 1 rfl) ?_
  refine lv_dup hx hb dX4_take_34 rfl ?_
  refine va_get (D := (dC, dI)) (ci := 4) (v := .int 2) (C := RX4) (T := TX4) (N := 14) hx hb hts ik_take0_RX4 hown hK hP 0 rfl rfl 2 (by decide) (hts (.fieldLink RX4 43 "PutBack$Reader" "length" "I") (by decide +kernel)) (fun _ h9 => h9) rfl dX4_take_35 ?_
  refine lv_iconst (v := 1) hx hb dX4_take_38 (by decide) ?_
  refine lv_iadd hx hb dX4_take_39 ?_
  refine lv_topi (fun z_18 ez_18 => ?_)
  obtain rfl : z_18 = (3 : Int32) := ez_18.trans (by decide)
  refine va_put (D := (dC, dI)) (ci := 4) (v := .int 3) (ty := .int) (C := RX4) (T := TX4) (N := 14) hx hb hts ik_take0_RX4 tyX4 tyX4_ok nmX4 hown hK hP hD hS 0 rfl rfl 2 (by decide) (hts (.fieldLink RX4 43 "PutBack$Reader" "length" "I") (by decide +kernel)) (fun _ h9 => h9) rfl (by decide +kernel) rfl rfl (Nat.le_of_ble_eq_true rfl) dX4_take_40 (fun H locs hP hD hS => ?_)
  have hP : va_P (dC, dI) cls [(rd, .inr (4, [.ref lenses_, .int 0, .int 3, .int 0, .int (-1), .int (-1), .ref tp, .ref names_, .ref quoted_, .ref links_, .ref walker2_, .int 0, .int 0, .int 0])), (tp, .inl (cI, 600, .inl g_17))] H := hP
  have hD : va_D A [(rd, .inr (4, [.ref lenses_, .int 0, .int 3, .int 0, .int (-1), .int (-1), .ref tp, .ref names_, .ref quoted_, .ref links_, .ref walker2_, .int 0, .int 0, .int 0])), (tp, .inl (cI, 600, .inl g_17))] := hD
  refine lv_iinc (v := 0) (lv' := [(2, .int 0), (0, .ref rd), (1, .int v1)]) hx hb dX4_take_43 hl (k := 0) rfl (by decide) (by decide) rfl (fun ls hl => ?_)
  refine lv_goto (tgt := 3) hx hb dX4_take_46 (by decide) ?_
  refine lv_iload_n hx hb dX4_take_3 rfl (lv_at hl 0 rfl) ?_
  refine lv_if_lt (tgt := 49) hx hb dX4_take_4 (by decide) (fun c_19 => ?_) (fun c_19 => ?_)
  · exact (by revert c_19; decide : False).elim
  refine lv_aload_n hx hb dX4_take_7 rfl (lv_at hl 1 rfl) ?_
  refine va_get (D := (dC, dI)) (ci := 4) (v := .int 3) (C := RX4) (T := TX4) (N := 14) hx hb hts ik_take0_RX4 hown hK hP 0 rfl rfl 2 (by decide) (hts (.fieldLink RX4 43 "PutBack$Reader" "length" "I") (by decide +kernel)) (fun _ h9 => h9) rfl dX4_take_8 ?_
  refine lv_sipush (v := 600) hx hb dX4_take_11 (by decide) ?_
  refine lv_icmp_ge (tgt := 49) hx hb dX4_take_14 (by decide) (fun c_20 => ?_) (fun c_20 => ?_)
  · exact (by revert c_20; decide : False).elim
  refine lv_aload_n hx hb dX4_take_17 rfl (lv_at hl 1 rfl) ?_
  refine va_get (D := (dC, dI)) (ci := 4) (v := .ref tp) (C := RX4) (T := TX4) (N := 14) hx hb hts ik_take0_RX4 hown hK hP 0 rfl rfl 6 (by decide) (hts (.fieldLink RX4 24 "PutBack$Reader" "tape" "[I") (by decide +kernel)) (fun _ h9 => h9) rfl dX4_take_18 ?_
  refine lv_aload_n hx hb dX4_take_21 rfl (lv_at hl 1 rfl) ?_
  refine va_get (D := (dC, dI)) (ci := 4) (v := .int 3) (C := RX4) (T := TX4) (N := 14) hx hb hts ik_take0_RX4 hown hK hP 0 rfl rfl 2 (by decide) (hts (.fieldLink RX4 43 "PutBack$Reader" "length" "I") (by decide +kernel)) (fun _ h9 => h9) rfl dX4_take_22 ?_
  refine lv_iload_n hx hb dX4_take_25 rfl (lv_at hl 2 rfl) ?_
  refine lv_iload_n hx hb dX4_take_26 rfl (lv_at hl 0 rfl) ?_
  refine lv_iushr hx hb dX4_take_27 rfl ?_
  refine lv_topi (fun z_21 ez_21 => ?_)
  refine lv_sipush (v := 255) hx hb dX4_take_28 (by decide) ?_
  refine lv_iand hx hb dX4_take_31 ?_
  refine lv_topi (fun z_22 ez_22 => ?_)
  refine va_iast hx hb hK hP hD hS 1 0 rfl rfl (by unfold vp_in; decide) dX4_take_32 (fun H locs hP hD hS => ?_)
  have hP : va_P (dC, dI) cls [(rd, .inr (4, [.ref lenses_, .int 0, .int 3, .int 0, .int (-1), .int (-1), .ref tp, .ref names_, .ref quoted_, .ref links_, .ref walker2_, .int 0, .int 0, .int 0])), (tp, .inl (cI, 600, .inl (upd g_17 (3 : Int32).toNatClampNeg z_22)))] H := hP
  have hD : va_D A [(rd, .inr (4, [.ref lenses_, .int 0, .int 3, .int 0, .int (-1), .int (-1), .ref tp, .ref names_, .ref quoted_, .ref links_, .ref walker2_, .int 0, .int 0, .int 0])), (tp, .inl (cI, 600, .inl (upd g_17 (3 : Int32).toNatClampNeg z_22)))] := hD
  generalize (upd g_17 (3 : Int32).toNatClampNeg z_22) = g_23 at hP hD
  refine lv_aload_n hx hb dX4_take_33 rfl (lv_at hl 1 rfl) ?_
  refine lv_dup hx hb dX4_take_34 rfl ?_
  refine va_get (D := (dC, dI)) (ci := 4) (v := .int 3) (C := RX4) (T := TX4) (N := 14) hx hb hts ik_take0_RX4 hown hK hP 0 rfl rfl 2 (by decide) (hts (.fieldLink RX4 43 "PutBack$Reader" "length" "I") (by decide +kernel)) (fun _ h9 => h9) rfl dX4_take_35 ?_
  refine lv_iconst (v := 1) hx hb dX4_take_38 (by decide) ?_
  refine lv_iadd hx hb dX4_take_39 ?_
  refine lv_topi (fun z_24 ez_24 => ?_)
  obtain rfl : z_24 = (4 : Int32) := ez_24.trans (by decide)
  refine va_put (D := (dC, dI)) (ci := 4) (v := .int 4) (ty := .int) (C := RX4) (T := TX4) (N := 14) hx hb hts ik_take0_RX4 tyX4 tyX4_ok nmX4 hown hK hP hD hS 0 rfl rfl 2 (by decide) (hts (.fieldLink RX4 43 "PutBack$Reader" "length" "I") (by decide +kernel)) (fun _ h9 => h9) rfl (by decide +kernel) rfl rfl (Nat.le_of_ble_eq_true rfl) dX4_take_40 (fun H locs hP hD hS => ?_)
  have hP : va_P (dC, dI) cls [(rd, .inr (4, [.ref lenses_, .int 0, .int 4, .int 0, .int (-1), .int (-1), .ref tp, .ref names_, .ref quoted_, .ref links_, .ref walker2_, .int 0, .int 0, .int 0])), (tp, .inl (cI, 600, .inl g_23))] H := hP
  have hD : va_D A [(rd, .inr (4, [.ref lenses_, .int 0, .int 4, .int 0, .int (-1), .int (-1), .ref tp, .ref names_, .ref quoted_, .ref links_, .ref walker2_, .int 0, .int 0, .int 0])), (tp, .inl (cI, 600, .inl g_23))] := hD
  refine lv_iinc (v := (-8)) (lv' := [(2, .int (-8)), (0, .ref rd), (1, .int v1)]) hx hb dX4_take_43 hl (k := 0) rfl (by decide) (by decide) rfl (fun ls hl => ?_)
  refine lv_goto (tgt := 3) hx hb dX4_take_46 (by decide) ?_
  refine lv_iload_n hx hb dX4_take_3 rfl (lv_at hl 0 rfl) ?_
  refine lv_if_lt (tgt := 49) hx hb dX4_take_4 (by decide) (fun c_25 => ?_) (fun c_25 => ?_)
  rotate_left
  · exact (by revert c_25; decide : False).elim
  have hK9 := hK.sub (tys' := [(cI, .int)]) [0] rfl
  have hP9 := hP.sub (ws' := [(rd, .inr (4, [.ref lenses_, .int 0, .int 4, .int 0, .int (-1), .int (-1), .ref tp, .ref names_, .ref quoted_, .ref links_, .ref walker2_, .int 0, .int 0, .int 0])), (tp, .inl (cI, 600, .inl g_23))]) [0, 1] rfl
  have hD9 := hD.sub (ws' := [(rd, .inr (4, [.ref lenses_, .int 0, .int 4, .int 0, .int (-1), .int (-1), .ref tp, .ref names_, .ref quoted_, .ref links_, .ref walker2_, .int 0, .int 0, .int 0])), (tp, .inl (cI, 600, .inl g_23))]) [0, 1] (by decide) rfl
  exact W.vret hx hb hr (fun t ht hW => ⟨⟨(), rfl, trivial, g_23, by rw [ht]; exact hP9, va_K.moved hW.alike hK9, hD9⟩, hS.F ht⟩) hS.2.2 dX4_take_49
def wk_take4 : List Cond := .code yX4_take cX4_take 3 none :: ([.fieldLink RX4 43 "PutBack$Reader" "length" "I", .fieldLink RX4 24 "PutBack$Reader" "tape" "[I"] ++ wsX40)
theorem ik_take4_RX4 : ∀ w ∈ u_ws RX4 TX4 14, w ∈ wk_take4 := fun w h => List.mem_cons_of_mem _ (List.mem_append_right _ h)
set_option maxHeartbeats 4000000 in
set_option maxRecDepth 100000 in
theorem k_take4 (l : Launch) (dC : Nat → ClassId) (dI : Nat → Nat → Nat) (sz : Nat) (rd : Nat) (v1 : Int32) (lenses_ : Nat) (tp : Nat) (names_ : Nat) (quoted_ : Nat) (links_ : Nat) (walker2_ : Nat) (cI : ClassId) (fA : Nat → Int32) : Met l yX4_take wk_take4 ({ frames := 0, cells := 0, slots := 0, locals := 0 } : Room) (va_Pc [.ref rd, .int v1] (fun U => U.heap.size = sz ∧ va_P (dC, dI) cls [(rd, .inr (4, [.ref lenses_, .int 0, .int 4, .int 0, .int (-1), .int (-1), .ref tp, .ref names_, .ref quoted_, .ref links_, .ref walker2_, .int 0, .int 0, .int 0])), (tp, .inl (cI, 600, .inl fA))] U.heap ∧ va_K (dC, dI) cls [(cI, .int)] U ∧ va_D (fun _ => True) [(rd, .inr (4, [.ref lenses_, .int 0, .int 4, .int 0, .int (-1), .int (-1), .ref tp, .ref names_, .ref quoted_, .ref links_, .ref walker2_, .int 0, .int 0, .int 0])), (tp, .inl (cI, 600, .inl fA))])) (va_Qv (fun _ : Unit => True) (fun (_ : Unit) t => ∃ gT : Nat → Int32, va_P (dC, dI) cls [(rd, .inr (4, [.ref lenses_, .int 0, .int 8, .int 0, .int (-1), .int (-1), .ref tp, .ref names_, .ref quoted_, .ref links_, .ref walker2_, .int 0, .int 0, .int 0])), (tp, .inl (cI, 600, .inl gT))] t.heap ∧ va_K (dC, dI) cls [(cI, .int)] t ∧ va_D (va_A [(rd, .inr (4, [.ref lenses_, .int 0, .int 4, .int 0, .int (-1), .int (-1), .ref tp, .ref names_, .ref quoted_, .ref links_, .ref walker2_, .int 0, .int 0, .int 0])), (tp, .inl (cI, 600, .inl fA))] sz) [(rd, .inr (4, [.ref lenses_, .int 0, .int 8, .int 0, .int (-1), .int (-1), .ref tp, .ref names_, .ref quoted_, .ref links_, .ref walker2_, .int 0, .int 0, .int 0])), (tp, .inl (cI, 600, .inl gT))]) (va_A [(rd, .inr (4, [.ref lenses_, .int 0, .int 4, .int 0, .int (-1), .int (-1), .ref tp, .ref names_, .ref quoted_, .ref links_, .ref walker2_, .int 0, .int 0, .int 0])), (tp, .inl (cI, 600, .inl fA))] sz)) 0 0 (va_A [(rd, .inr (4, [.ref lenses_, .int 0, .int 4, .int 0, .int (-1), .int (-1), .ref tp, .ref names_, .ref quoted_, .ref links_, .ref walker2_, .int 0, .int 0, .int 0])), (tp, .inl (cI, 600, .inl fA))] sz) := by
  refine Met.ofW (cc := cX4_take) (maxL := 3) (ret := none) (by decide) rfl ?_
  intro p e s m args below meth c s₁ B hml hv
  obtain ⟨rfl, hsz, hP, hK, hD0⟩ := hv
  have hx := B.exec
  have hb := B.bytes
  have hr := B.returns
  have hts := atoms_spec (ws := wk_take4) B.pre
  have hown : s.vm.findClass RX4 = some m.cls := findClass_of_methodNamed B.named
  have hlocks := B.notSynchronized
  subst hsz
  have hD := hD0.self (sz := s.heap.size)
  generalize hAe : va_A [(rd, .inr (4, [.ref lenses_, .int 0, .int 4, .int 0, .int (-1), .int (-1), .ref tp, .ref names_, .ref quoted_, .ref links_, .ref walker2_, .int 0, .int 0, .int 0])), (tp, .inl (cI, 600, .inl fA))] s.heap.size = A at hD ⊢
  have hA : ∀ q : Nat, s.heap.size ≤ q → A q := fun q h => by rw [← hAe]; exact Or.inr h
  have hP : va_P (dC, dI) cls [(rd, .inr (4, [.ref lenses_, .int 0, .int 4, .int 0, .int (-1), .int (-1), .ref tp, .ref names_, .ref quoted_, .ref links_, .ref walker2_, .int 0, .int 0, .int 0])), (tp, .inl (cI, 600, .inl fA))] s.heap := hP
  have hl := lv_entry ([.ref rd, .int v1]) (n := 3) (Nat.le_of_ble_eq_true rfl)
  rw [lg_entry_eq]
  generalize (lg_sl ([.ref rd, .int v1]) ++ List.replicate (3 - (lg_sl ([.ref rd, .int v1])).length) Slot.unset).toArray = ls at hl ⊢
  have hl : lv_has ls 3 [(0, .ref rd), (1, .int v1)] := hl
  obtain ⟨H, hH⟩ : ∃ H : Heap, s.heap = H := ⟨_, rfl⟩
  rw [hH] at hP ⊢
  have hS : va_S A s.heap H [] := by rw [← hH]; exact va_S.rf
  refine lv_bipush (v := 24) hx hb dX4_take_0 (by decide) ?_
  refine lv_istore_n (lv' := [(2, .int 24), (0, .ref rd), (1, .int v1)]) hx hb dX4_take_2 rfl hl (by decide) rfl (fun ls hl => ?_)
  refine lv_iload_n hx hb dX4_take_3 rfl (lv_at hl 0 rfl) ?_
  refine lv_if_lt (tgt := 49) hx hb dX4_take_4 (by decide) (fun c_1 => ?_) (fun c_1 => ?_)
  · exact (by revert c_1; decide : False).elim
  refine lv_aload_n hx hb dX4_take_7 rfl (lv_at hl 1 rfl) ?_
  refine va_get (D := (dC, dI)) (ci := 4) (v := .int 4) (C := RX4) (T := TX4) (N := 14) hx hb hts ik_take4_RX4 hown hK hP 0 rfl rfl 2 (by decide) (hts (.fieldLink RX4 43 "PutBack$Reader" "length" "I") (by decide +kernel)) (fun _ h9 => h9) rfl dX4_take_8 ?_
  refine lv_sipush (v := 600) hx hb dX4_take_11 (by decide) ?_
  refine lv_icmp_ge (tgt := 49) hx hb dX4_take_14 (by decide) (fun c_2 => ?_) (fun c_2 => ?_)
  · exact (by revert c_2; decide : False).elim
  refine lv_aload_n hx hb dX4_take_17 rfl (lv_at hl 1 rfl) ?_
  refine va_get (D := (dC, dI)) (ci := 4) (v := .ref tp) (C := RX4) (T := TX4) (N := 14) hx hb hts ik_take4_RX4 hown hK hP 0 rfl rfl 6 (by decide) (hts (.fieldLink RX4 24 "PutBack$Reader" "tape" "[I") (by decide +kernel)) (fun _ h9 => h9) rfl dX4_take_18 ?_
  refine lv_aload_n hx hb dX4_take_21 rfl (lv_at hl 1 rfl) ?_
  refine va_get (D := (dC, dI)) (ci := 4) (v := .int 4) (C := RX4) (T := TX4) (N := 14) hx hb hts ik_take4_RX4 hown hK hP 0 rfl rfl 2 (by decide) (hts (.fieldLink RX4 43 "PutBack$Reader" "length" "I") (by decide +kernel)) (fun _ h9 => h9) rfl dX4_take_22 ?_
  refine lv_iload_n hx hb dX4_take_25 rfl (lv_at hl 2 rfl) ?_
  refine lv_iload_n hx hb dX4_take_26 rfl (lv_at hl 0 rfl) ?_
  refine lv_iushr hx hb dX4_take_27 rfl ?_
  refine lv_topi (fun z_3 ez_3 => ?_)
  refine lv_sipush (v := 255) hx hb dX4_take_28 (by decide) ?_
  refine lv_iand hx hb dX4_take_31 ?_
  refine lv_topi (fun z_4 ez_4 => ?_)
  refine va_iast hx hb hK hP hD hS 1 0 rfl rfl (by unfold vp_in; decide) dX4_take_32 (fun H locs hP hD hS => ?_)
  have hP : va_P (dC, dI) cls [(rd, .inr (4, [.ref lenses_, .int 0, .int 4, .int 0, .int (-1), .int (-1), .ref tp, .ref names_, .ref quoted_, .ref links_, .ref walker2_, .int 0, .int 0, .int 0])), (tp, .inl (cI, 600, .inl (upd fA (4 : Int32).toNatClampNeg z_4)))] H := hP
  have hD : va_D A [(rd, .inr (4, [.ref lenses_, .int 0, .int 4, .int 0, .int (-1), .int (-1), .ref tp, .ref names_, .ref quoted_, .ref links_, .ref walker2_, .int 0, .int 0, .int 0])), (tp, .inl (cI, 600, .inl (upd fA (4 : Int32).toNatClampNeg z_4)))] := hD
  generalize (upd fA (4 : Int32).toNatClampNeg z_4) = g_5 at hP hD
  refine lv_aload_n hx hb dX4_take_33 rfl (lv_at hl 1 rfl) ?_
  refine lv_dup hx hb dX4_take_34 rfl ?_
  refine va_get (D := (dC, dI)) (ci := 4) (v := .int 4) (C := RX4) (T := TX4) (N := 14) hx hb hts ik_take4_RX4 hown hK hP 0 rfl rfl 2 (by decide) (hts (.fieldLink RX4 43 "PutBack$Reader" "length" "I") (by decide +kernel)) (fun _ h9 => h9) rfl dX4_take_35 ?_
  refine lv_iconst (v := 1) hx hb dX4_take_38 (by decide) ?_
  refine lv_iadd hx hb dX4_take_39 ?_
  refine lv_topi (fun z_6 ez_6 => ?_)
  obtain rfl : z_6 = (5 : Int32) := ez_6.trans (by decide)
  refine va_put (D := (dC, dI)) (ci := 4) (v := .int 5) (ty := .int) (C := RX4) (T := TX4) (N := 14) hx hb hts ik_take4_RX4 tyX4 tyX4_ok nmX4 hown hK hP hD hS 0 rfl rfl 2 (by decide) (hts (.fieldLink RX4 43 "PutBack$Reader" "length" "I") (by decide +kernel)) (fun _ h9 => h9) rfl (by decide +kernel) rfl rfl (Nat.le_of_ble_eq_true rfl) dX4_take_40 (fun H locs hP hD hS => ?_)
  have hP : va_P (dC, dI) cls [(rd, .inr (4, [.ref lenses_, .int 0, .int 5, .int 0, .int (-1), .int (-1), .ref tp, .ref names_, .ref quoted_, .ref links_, .ref walker2_, .int 0, .int 0, .int 0])), (tp, .inl (cI, 600, .inl g_5))] H := hP
  have hD : va_D A [(rd, .inr (4, [.ref lenses_, .int 0, .int 5, .int 0, .int (-1), .int (-1), .ref tp, .ref names_, .ref quoted_, .ref links_, .ref walker2_, .int 0, .int 0, .int 0])), (tp, .inl (cI, 600, .inl g_5))] := hD
  refine lv_iinc (v := 16) (lv' := [(2, .int 16), (0, .ref rd), (1, .int v1)]) hx hb dX4_take_43 hl (k := 0) rfl (by decide) (by decide) rfl (fun ls hl => ?_)
  refine lv_goto (tgt := 3) hx hb dX4_take_46 (by decide) ?_
  refine lv_iload_n hx hb dX4_take_3 rfl (lv_at hl 0 rfl) ?_
  refine lv_if_lt (tgt := 49) hx hb dX4_take_4 (by decide) (fun c_7 => ?_) (fun c_7 => ?_)
  · exact (by revert c_7; decide : False).elim
  refine lv_aload_n hx hb dX4_take_7 rfl (lv_at hl 1 rfl) ?_
  refine va_get (D := (dC, dI)) (ci := 4) (v := .int 5) (C := RX4) (T := TX4) (N := 14) hx hb hts ik_take4_RX4 hown hK hP 0 rfl rfl 2 (by decide) (hts (.fieldLink RX4 43 "PutBack$Reader" "length" "I") (by decide +kernel)) (fun _ h9 => h9) rfl dX4_take_8 ?_
  refine lv_sipush (v := 600) hx hb dX4_take_11 (by decide) ?_
  refine lv_icmp_ge (tgt := 49) hx hb dX4_take_14 (by decide) (fun c_8 => ?_) (fun c_8 => ?_)
  · exact (by revert c_8; decide : False).elim
  refine lv_aload_n hx hb dX4_take_17 rfl (lv_at hl 1 rfl) ?_
  refine va_get (D := (dC, dI)) (ci := 4) (v := .ref tp) (C := RX4) (T := TX4) (N := 14) hx hb hts ik_take4_RX4 hown hK hP 0 rfl rfl 6 (by decide) (hts (.fieldLink RX4 24 "PutBack$Reader" "tape" "[I") (by decide +kernel)) (fun _ h9 => h9) rfl dX4_take_18 ?_
  refine lv_aload_n hx hb dX4_take_21 rfl (lv_at hl 1 rfl) ?_
  refine va_get (D := (dC, dI)) (ci := 4) (v := .int 5) (C := RX4) (T := TX4) (N := 14) hx hb hts ik_take4_RX4 hown hK hP 0 rfl rfl 2 (by decide) (hts (.fieldLink RX4 43 "PutBack$Reader" "length" "I") (by decide +kernel)) (fun _ h9 => h9) rfl dX4_take_22 ?_
  refine lv_iload_n hx hb dX4_take_25 rfl (lv_at hl 2 rfl) ?_
  refine lv_iload_n hx hb dX4_take_26 rfl (lv_at hl 0 rfl) ?_
  refine lv_iushr hx hb dX4_take_27 rfl ?_
  refine lv_topi (fun z_9 ez_9 => ?_)
  refine lv_sipush (v := 255) hx hb dX4_take_28 (by decide) ?_
  refine lv_iand hx hb dX4_take_31 ?_
  refine lv_topi (fun z_10 ez_10 => ?_)
  refine va_iast hx hb hK hP hD hS 1 0 rfl rfl (by unfold vp_in; decide) dX4_take_32 (fun H locs hP hD hS => ?_)
  have hP : va_P (dC, dI) cls [(rd, .inr (4, [.ref lenses_, .int 0, .int 5, .int 0, .int (-1), .int (-1), .ref tp, .ref names_, .ref quoted_, .ref links_, .ref walker2_, .int 0, .int 0, .int 0])), (tp, .inl (cI, 600, .inl (upd g_5 (5 : Int32).toNatClampNeg z_10)))] H := hP
  have hD : va_D A [(rd, .inr (4, [.ref lenses_, .int 0, .int 5, .int 0, .int (-1), .int (-1), .ref tp, .ref names_, .ref quoted_, .ref links_, .ref walker2_, .int 0, .int 0, .int 0])), (tp, .inl (cI, 600, .inl (upd g_5 (5 : Int32).toNatClampNeg z_10)))] := hD
  generalize (upd g_5 (5 : Int32).toNatClampNeg z_10) = g_11 at hP hD
  refine lv_aload_n hx hb dX4_take_33 rfl (lv_at hl 1 rfl) ?_
  refine lv_dup hx hb dX4_take_34 rfl ?_
  refine va_get (D := (dC, dI)) (ci := 4) (v := .int 5) (C := RX4) (T := TX4) (N := 14) hx hb hts ik_take4_RX4 hown hK hP 0 rfl rfl 2 (by decide) (hts (.fieldLink RX4 43 "PutBack$Reader" "length" "I") (by decide +kernel)) (fun _ h9 => h9) rfl dX4_take_35 ?_
  refine lv_iconst (v := 1) hx hb dX4_take_38 (by decide) ?_
  refine lv_iadd hx hb dX4_take_39 ?_
  refine lv_topi (fun z_12 ez_12 => ?_)
  obtain rfl : z_12 = (6 : Int32) := ez_12.trans (by decide)
  refine va_put (D := (dC, dI)) (ci := 4) (v := .int 6) (ty := .int) (C := RX4) (T := TX4) (N := 14) hx hb hts ik_take4_RX4 tyX4 tyX4_ok nmX4 hown hK hP hD hS 0 rfl rfl 2 (by decide) (hts (.fieldLink RX4 43 "PutBack$Reader" "length" "I") (by decide +kernel)) (fun _ h9 => h9) rfl (by decide +kernel) rfl rfl (Nat.le_of_ble_eq_true rfl) dX4_take_40 (fun H locs hP hD hS => ?_)
  have hP : va_P (dC, dI) cls [(rd, .inr (4, [.ref lenses_, .int 0, .int 6, .int 0, .int (-1), .int (-1), .ref tp, .ref names_, .ref quoted_, .ref links_, .ref walker2_, .int 0, .int 0, .int 0])), (tp, .inl (cI, 600, .inl g_11))] H := hP
  have hD : va_D A [(rd, .inr (4, [.ref lenses_, .int 0, .int 6, .int 0, .int (-1), .int (-1), .ref tp, .ref names_, .ref quoted_, .ref links_, .ref walker2_, .int 0, .int 0, .int 0])), (tp, .inl (cI, 600, .inl g_11))] := hD
  refine lv_iinc (v := 8) (lv' := [(2, .int 8), (0, .ref rd), (1, .int v1)]) hx hb dX4_take_43 hl (k := 0) rfl (by decide) (by decide) rfl (fun ls hl => ?_)
  refine lv_goto (tgt := 3) hx hb dX4_take_46 (by decide) ?_
  refine lv_iload_n hx hb dX4_take_3 rfl (lv_at hl 0 rfl) ?_
  refine lv_if_lt (tgt := 49) hx hb dX4_take_4 (by decide) (fun c_13 => ?_) (fun c_13 => ?_)
  · exact (by revert c_13; decide : False).elim
  refine lv_aload_n hx hb dX4_take_7 rfl (lv_at hl 1 rfl) ?_
  refine va_get (D := (dC, dI)) (ci := 4) (v := .int 6) (C := RX4) (T := TX4) (N := 14) hx hb hts ik_take4_RX4 hown hK hP 0 rfl rfl 2 (by decide) (hts (.fieldLink RX4 43 "PutBack$Reader" "length" "I") (by decide +kernel)) (fun _ h9 => h9) rfl dX4_take_8 ?_
  refine lv_sipush (v := 600) hx hb dX4_take_11 (by decide) ?_
  refine lv_icmp_ge (tgt := 49) hx hb dX4_take_14 (by decide) (fun c_14 => ?_) (fun c_14 => ?_)
  · exact (by revert c_14; decide : False).elim
  refine lv_aload_n hx hb dX4_take_17 rfl (lv_at hl 1 rfl) ?_
  refine va_get (D := (dC, dI)) (ci := 4) (v := .ref tp) (C := RX4) (T := TX4) (N := 14) hx hb hts ik_take4_RX4 hown hK hP 0 rfl rfl 6 (by decide) (hts (.fieldLink RX4 24 "PutBack$Reader" "tape" "[I") (by decide +kernel)) (fun _ h9 => h9) rfl dX4_take_18 ?_
  refine lv_aload_n hx hb dX4_take_21 rfl (lv_at hl 1 rfl) ?_
  refine va_get (D := (dC, dI)) (ci := 4) (v := .int 6) (C := RX4) (T := TX4) (N := 14) hx hb hts ik_take4_RX4 hown hK hP 0 rfl rfl 2 (by decide) (hts (.fieldLink RX4 43 "PutBack$Reader" "length" "I") (by decide +kernel)) (fun _ h9 => h9) rfl dX4_take_22 ?_
  refine lv_iload_n hx hb dX4_take_25 rfl (lv_at hl 2 rfl) ?_
  refine lv_iload_n hx hb dX4_take_26 rfl (lv_at hl 0 rfl) ?_
  refine lv_iushr hx hb dX4_take_27 rfl ?_
  refine lv_topi (fun z_15 ez_15 => ?_)
  refine lv_sipush (v := 255) hx hb dX4_take_28 (by decide) ?_
  refine lv_iand hx hb dX4_take_31 ?_
  refine lv_topi (fun z_16 ez_16 => ?_)
  refine va_iast hx hb hK hP hD hS 1 0 rfl rfl (by unfold vp_in; decide) dX4_take_32 (fun H locs hP hD hS => ?_)
  have hP : va_P (dC, dI) cls [(rd, .inr (4, [.ref lenses_, .int 0, .int 6, .int 0, .int (-1), .int (-1), .ref tp, .ref names_, .ref quoted_, .ref links_, .ref walker2_, .int 0, .int 0, .int 0])), (tp, .inl (cI, 600, .inl (upd g_11 (6 : Int32).toNatClampNeg z_16)))] H := hP
  have hD : va_D A [(rd, .inr (4, [.ref lenses_, .int 0, .int 6, .int 0, .int (-1), .int (-1), .ref tp, .ref names_, .ref quoted_, .ref links_, .ref walker2_, .int 0, .int 0, .int 0])), (tp, .inl (cI, 600, .inl (upd g_11 (6 : Int32).toNatClampNeg z_16)))] := hD
  generalize (upd g_11 (6 : Int32).toNatClampNeg z_16) = g_17 at hP hD
  refine lv_aload_n hx hb dX4_take_33 rfl (lv_at hl 1 rfl) ?_
  refine lv_dup hx hb dX4_take_34 rfl ?_
  refine va_get (D := (dC, dI)) (ci := 4) (v := .int 6) (C := RX4) (T := TX4) (N := 14) hx hb hts ik_take4_RX4 hown hK hP 0 rfl rfl 2 (by decide) (hts (.fieldLink RX4 43 "PutBack$Reader" "length" "I") (by decide +kernel)) (fun _ h9 => h9) rfl dX4_take_35 ?_
  refine lv_iconst (v := 1) hx hb dX4_take_38 (by decide) ?_
  refine lv_iadd hx hb dX4_take_39 ?_
  refine lv_topi (fun z_18 ez_18 => ?_)
  obtain rfl : z_18 = (7 : Int32) := ez_18.trans (by decide)
  refine va_put (D := (dC, dI)) (ci := 4) (v := .int 7) (ty := .int) (C := RX4) (T := TX4) (N := 14) hx hb hts ik_take4_RX4 tyX4 tyX4_ok nmX4 hown hK hP hD hS 0 rfl rfl 2 (by decide) (hts (.fieldLink RX4 43 "PutBack$Reader" "length" "I") (by decide +kernel)) (fun _ h9 => h9) rfl (by decide +kernel) rfl rfl (Nat.le_of_ble_eq_true rfl) dX4_take_40 (fun H locs hP hD hS => ?_)
  have hP : va_P (dC, dI) cls [(rd, .inr (4, [.ref lenses_, .int 0, .int 7, .int 0, .int (-1), .int (-1), .ref tp, .ref names_, .ref quoted_, .ref links_, .ref walker2_, .int 0, .int 0, .int 0])), (tp, .inl (cI, 600, .inl g_17))] H := hP
  have hD : va_D A [(rd, .inr (4, [.ref lenses_, .int 0, .int 7, .int 0, .int (-1), .int (-1), .ref tp, .ref names_, .ref quoted_, .ref links_, .ref walker2_, .int 0, .int 0, .int 0])), (tp, .inl (cI, 600, .inl g_17))] := hD
  refine lv_iinc (v := 0) (lv' := [(2, .int 0), (0, .ref rd), (1, .int v1)]) hx hb dX4_take_43 hl (k := 0) rfl (by decide) (by decide) rfl (fun ls hl => ?_)
  refine lv_goto (tgt := 3) hx hb dX4_take_46 (by decide) ?_
  refine lv_iload_n hx hb dX4_take_3 rfl (lv_at hl 0 rfl) ?_
  refine lv_if_lt (tgt := 49) hx hb dX4_take_4 (by decide) (fun c_19 => ?_) (fun c_19 => ?_)
  · exact (by revert c_19; decide : False).elim
  refine lv_aload_n hx hb dX4_take_7 rfl (lv_at hl 1 rfl) ?_
  refine va_get (D := (dC, dI)) (ci := 4) (v := .int 7) (C := RX4) (T := TX4) (N := 14) hx hb hts ik_take4_RX4 hown hK hP 0 rfl rfl 2 (by decide) (hts (.fieldLink RX4 43 "PutBack$Reader" "length" "I") (by decide +kernel)) (fun _ h9 => h9) rfl dX4_take_8 ?_
  refine lv_sipush (v := 600) hx hb dX4_take_11 (by decide) ?_
  refine lv_icmp_ge (tgt := 49) hx hb dX4_take_14 (by decide) (fun c_20 => ?_) (fun c_20 => ?_)
  · exact (by revert c_20; decide : False).elim
  refine lv_aload_n hx hb dX4_take_17 rfl (lv_at hl 1 rfl) ?_
  refine va_get (D := (dC, dI)) (ci := 4) (v := .ref tp) (C := RX4) (T := TX4) (N := 14) hx hb hts ik_take4_RX4 hown hK hP 0 rfl rfl 6 (by decide) (hts (.fieldLink RX4 24 "PutBack$Reader" "tape" "[I") (by decide +kernel)) (fun _ h9 => h9) rfl dX4_take_18 ?_
  refine lv_aload_n hx hb dX4_take_21 rfl (lv_at hl 1 rfl) ?_
  refine va_get (D := (dC, dI)) (ci := 4) (v := .int 7) (C := RX4) (T := TX4) (N := 14) hx hb hts ik_take4_RX4 hown hK hP 0 rfl rfl 2 (by decide) (hts (.fieldLink RX4 43 "PutBack$Reader" "length" "I") (by decide +kernel)) (fun _ h9 => h9) rfl dX4_take_22 ?_
  refine lv_iload_n hx hb dX4_take_25 rfl (lv_at hl 2 rfl) ?_
  refine lv_iload_n hx hb dX4_take_26 rfl (lv_at hl 0 rfl) ?_
  refine lv_iushr hx hb dX4_take_27 rfl ?_
  refine lv_topi (fun z_21 ez_21 => ?_)
  refine lv_sipush (v := 255) hx hb dX4_take_28 (by decide) ?_
  refine lv_iand hx hb dX4_take_31 ?_
  refine lv_topi (fun z_22 ez_22 => ?_)
  refine va_iast hx hb hK hP hD hS 1 0 rfl rfl (by unfold vp_in; decide) dX4_take_32 (fun H locs hP hD hS => ?_)
  have hP : va_P (dC, dI) cls [(rd, .inr (4, [.ref lenses_, .int 0, .int 7, .int 0, .int (-1), .int (-1), .ref tp, .ref names_, .ref quoted_, .ref links_, .ref walker2_, .int 0, .int 0, .int 0])), (tp, .inl (cI, 600, .inl (upd g_17 (7 : Int32).toNatClampNeg z_22)))] H := hP
  have hD : va_D A [(rd, .inr (4, [.ref lenses_, .int 0, .int 7, .int 0, .int (-1), .int (-1), .ref tp, .ref names_, .ref quoted_, .ref links_, .ref walker2_, .int 0, .int 0, .int 0])), (tp, .inl (cI, 600, .inl (upd g_17 (7 : Int32).toNatClampNeg z_22)))] := hD
  generalize (upd g_17 (7 : Int32).toNatClampNeg z_22) = g_23 at hP hD
  refine lv_aload_n hx hb dX4_take_33 rfl (lv_at hl 1 rfl) ?_
  refine lv_dup hx hb dX4_take_34 rfl ?_
  refine va_get (D := (dC, dI)) (ci := 4) (v := .int 7) (C := RX4) (T := TX4) (N := 14) hx hb hts ik_take4_RX4 hown hK hP 0 rfl rfl 2 (by decide) (hts (.fieldLink RX4 43 "PutBack$Reader" "length" "I") (by decide +kernel)) (fun _ h9 => h9) rfl dX4_take_35 ?_
  refine lv_iconst (v := 1) hx hb dX4_take_38 (by decide) ?_
  refine lv_iadd hx hb dX4_take_39 ?_
  refine lv_topi (fun z_24 ez_24 => ?_)
  obtain rfl : z_24 = (8 : Int32) := ez_24.trans (by decide)
  refine va_put (D := (dC, dI)) (ci := 4) (v := .int 8) (ty := .int) (C := RX4) (T := TX4) (N := 14) hx hb hts ik_take4_RX4 tyX4 tyX4_ok nmX4 hown hK hP hD hS 0 rfl rfl 2 (by decide) (hts (.fieldLink RX4 43 "PutBack$Reader" "length" "I") (by decide +kernel)) (fun _ h9 => h9) rfl (by decide +kernel) rfl rfl (Nat.le_of_ble_eq_true rfl) dX4_take_40 (fun H locs hP hD hS => ?_)
  have hP : va_P (dC, dI) cls [(rd, .inr (4, [.ref lenses_, .int 0, .int 8, .int 0, .int (-1), .int (-1), .ref tp, .ref names_, .ref quoted_, .ref links_, .ref walker2_, .int 0, .int 0, .int 0])), (tp, .inl (cI, 600, .inl g_23))] H := hP
  have hD : va_D A [(rd, .inr (4, [.ref lenses_, .int 0, .int 8, .int 0, .int (-1), .int (-1), .ref tp, .ref names_, .ref quoted_, .ref links_, .ref walker2_, .int 0, .int 0, .int 0])), (tp, .inl (cI, 600, .inl g_23))] := hD
  refine lv_iinc (v := (-8)) (lv' := [(2, .int (-8)), (0, .ref rd), (1, .int v1)]) hx hb dX4_take_43 hl (k := 0) rfl (by decide) (by decide) rfl (fun ls hl => ?_)
  refine lv_goto (tgt := 3) hx hb dX4_take_46 (by decide) ?_
  refine lv_iload_n hx hb dX4_take_3 rfl (lv_at hl 0 rfl) ?_
  refine lv_if_lt (tgt := 49) hx hb dX4_take_4 (by decide) (fun c_25 => ?_) (fun c_25 => ?_)
  rotate_left
  · exact (by revert c_25; decide : False).elim
  have hK9 := hK.sub (tys' := [(cI, .int)]) [0] rfl
  have hP9 := hP.sub (ws' := [(rd, .inr (4, [.ref lenses_, .int 0, .int 8, .int 0, .int (-1), .int (-1), .ref tp, .ref names_, .ref quoted_, .ref links_, .ref walker2_, .int 0, .int 0, .int 0])), (tp, .inl (cI, 600, .inl g_23))]) [0, 1] rfl
  have hD9 := hD.sub (ws' := [(rd, .inr (4, [.ref lenses_, .int 0, .int 8, .int 0, .int (-1), .int (-1), .ref tp, .ref names_, .ref quoted_, .ref links_, .ref walker2_, .int 0, .int 0, .int 0])), (tp, .inl (cI, 600, .inl g_23))]) [0, 1] (by decide) rfl
  exact W.vret hx hb hr (fun t ht hW => ⟨⟨(), rfl, trivial, g_23, by rw [ht]; exact hP9, va_K.moved hW.alike hK9, hD9⟩, hS.F ht⟩) hS.2.2 dX4_take_49
def wk_take8 : List Cond := .code yX4_take cX4_take 3 none :: ([.fieldLink RX4 43 "PutBack$Reader" "length" "I", .fieldLink RX4 24 "PutBack$Reader" "tape" "[I"] ++ wsX40)
theorem ik_take8_RX4 : ∀ w ∈ u_ws RX4 TX4 14, w ∈ wk_take8 := fun w h => List.mem_cons_of_mem _ (List.mem_append_right _ h)
set_option maxHeartbeats 4000000 in
set_option maxRecDepth 100000 in
theorem k_take8 (l : Launch) (dC : Nat → ClassId) (dI : Nat → Nat → Nat) (sz : Nat) (rd : Nat) (v1 : Int32) (lenses_ : Nat) (tp : Nat) (names_ : Nat) (quoted_ : Nat) (links_ : Nat) (walker2_ : Nat) (cI : ClassId) (fA : Nat → Int32) : Met l yX4_take wk_take8 ({ frames := 0, cells := 0, slots := 0, locals := 0 } : Room) (va_Pc [.ref rd, .int v1] (fun U => U.heap.size = sz ∧ va_P (dC, dI) cls [(rd, .inr (4, [.ref lenses_, .int 0, .int 8, .int 0, .int (-1), .int (-1), .ref tp, .ref names_, .ref quoted_, .ref links_, .ref walker2_, .int 0, .int 0, .int 0])), (tp, .inl (cI, 600, .inl fA))] U.heap ∧ va_K (dC, dI) cls [(cI, .int)] U ∧ va_D (fun _ => True) [(rd, .inr (4, [.ref lenses_, .int 0, .int 8, .int 0, .int (-1), .int (-1), .ref tp, .ref names_, .ref quoted_, .ref links_, .ref walker2_, .int 0, .int 0, .int 0])), (tp, .inl (cI, 600, .inl fA))])) (va_Qv (fun _ : Unit => True) (fun (_ : Unit) t => ∃ gT : Nat → Int32, va_P (dC, dI) cls [(rd, .inr (4, [.ref lenses_, .int 0, .int 12, .int 0, .int (-1), .int (-1), .ref tp, .ref names_, .ref quoted_, .ref links_, .ref walker2_, .int 0, .int 0, .int 0])), (tp, .inl (cI, 600, .inl gT))] t.heap ∧ va_K (dC, dI) cls [(cI, .int)] t ∧ va_D (va_A [(rd, .inr (4, [.ref lenses_, .int 0, .int 8, .int 0, .int (-1), .int (-1), .ref tp, .ref names_, .ref quoted_, .ref links_, .ref walker2_, .int 0, .int 0, .int 0])), (tp, .inl (cI, 600, .inl fA))] sz) [(rd, .inr (4, [.ref lenses_, .int 0, .int 12, .int 0, .int (-1), .int (-1), .ref tp, .ref names_, .ref quoted_, .ref links_, .ref walker2_, .int 0, .int 0, .int 0])), (tp, .inl (cI, 600, .inl gT))]) (va_A [(rd, .inr (4, [.ref lenses_, .int 0, .int 8, .int 0, .int (-1), .int (-1), .ref tp, .ref names_, .ref quoted_, .ref links_, .ref walker2_, .int 0, .int 0, .int 0])), (tp, .inl (cI, 600, .inl fA))] sz)) 0 0 (va_A [(rd, .inr (4, [.ref lenses_, .int 0, .int 8, .int 0, .int (-1), .int (-1), .ref tp, .ref names_, .ref quoted_, .ref links_, .ref walker2_, .int 0, .int 0, .int 0])), (tp, .inl (cI, 600, .inl fA))] sz) := by
  refine Met.ofW (cc := cX4_take) (maxL := 3) (ret := none) (by decide) rfl ?_
  intro p e s m args below meth c s₁ B hml hv
  obtain ⟨rfl, hsz, hP, hK, hD0⟩ := hv
  have hx := B.exec
  have hb := B.bytes
  have hr := B.returns
  have hts := atoms_spec (ws := wk_take8) B.pre
  have hown : s.vm.findClass RX4 = some m.cls := findClass_of_methodNamed B.named
  have hlocks := B.notSynchronized
  subst hsz
  have hD := hD0.self (sz := s.heap.size)
  generalize hAe : va_A [(rd, .inr (4, [.ref lenses_, .int 0, .int 8, .int 0, .int (-1), .int (-1), .ref tp, .ref names_, .ref quoted_, .ref links_, .ref walker2_, .int 0, .int 0, .int 0])), (tp, .inl (cI, 600, .inl fA))] s.heap.size = A at hD ⊢
  have hA : ∀ q : Nat, s.heap.size ≤ q → A q := fun q h => by rw [← hAe]; exact Or.inr h
  have hP : va_P (dC, dI) cls [(rd, .inr (4, [.ref lenses_, .int 0, .int 8, .int 0, .int (-1), .int (-1), .ref tp, .ref names_, .ref quoted_, .ref links_, .ref walker2_, .int 0, .int 0, .int 0])), (tp, .inl (cI, 600, .inl fA))] s.heap := hP
  have hl := lv_entry ([.ref rd, .int v1]) (n := 3) (Nat.le_of_ble_eq_true rfl)
  rw [lg_entry_eq]
  generalize (lg_sl ([.ref rd, .int v1]) ++ List.replicate (3 - (lg_sl ([.ref rd, .int v1])).length) Slot.unset).toArray = ls at hl ⊢
  have hl : lv_has ls 3 [(0, .ref rd), (1, .int v1)] := hl
  obtain ⟨H, hH⟩ : ∃ H : Heap, s.heap = H := ⟨_, rfl⟩
  rw [hH] at hP ⊢
  have hS : va_S A s.heap H [] := by rw [← hH]; exact va_S.rf
  refine lv_bipush (v := 24) hx hb dX4_take_0 (by decide) ?_
  refine lv_istore_n (lv' := [(2, .int 24), (0, .ref rd), (1, .int v1)]) hx hb dX4_take_2 rfl hl (by decide) rfl (fun ls hl => ?_)
  refine lv_iload_n hx hb dX4_take_3 rfl (lv_at hl 0 rfl) ?_
  refine lv_if_lt (tgt := 49) hx hb dX4_take_4 (by decide) (fun c_1 => ?_) (fun c_1 => ?_)
  · exact (by revert c_1; decide : False).elim
  refine lv_aload_n hx hb dX4_take_7 rfl (lv_at hl 1 rfl) ?_
  refine va_get (D := (dC, dI)) (ci := 4) (v := .int 8) (C := RX4) (T := TX4) (N := 14) hx hb hts ik_take8_RX4 hown hK hP 0 rfl rfl 2 (by decide) (hts (.fieldLink RX4 43 "PutBack$Reader" "length" "I") (by decide +kernel)) (fun _ h9 => h9) rfl dX4_take_8 ?_
  refine lv_sipush (v := 600) hx hb dX4_take_11 (by decide) ?_
  refine lv_icmp_ge (tgt := 49) hx hb dX4_take_14 (by decide) (fun c_2 => ?_) (fun c_2 => ?_)
  · exact (by revert c_2; decide : False).elim
  refine lv_aload_n hx hb dX4_take_17 rfl (lv_at hl 1 rfl) ?_
  refine va_get (D := (dC, dI)) (ci := 4) (v := .ref tp) (C := RX4) (T := TX4) (N := 14) hx hb hts ik_take8_RX4 hown hK hP 0 rfl rfl 6 (by decide) (hts (.fieldLink RX4 24 "PutBack$Reader" "tape" "[I") (by decide +kernel)) (fun _ h9 => h9) rfl dX4_take_18 ?_
  refine lv_aload_n hx hb dX4_take_21 rfl (lv_at hl 1 rfl) ?_
  refine va_get (D := (dC, dI)) (ci := 4) (v := .int 8) (C := RX4) (T := TX4) (N := 14) hx hb hts ik_take8_RX4 hown hK hP 0 rfl rfl 2 (by decide) (hts (.fieldLink RX4 43 "PutBack$Reader" "length" "I") (by decide +kernel)) (fun _ h9 => h9) rfl dX4_take_22 ?_
  refine lv_iload_n hx hb dX4_take_25 rfl (lv_at hl 2 rfl) ?_
  refine lv_iload_n hx hb dX4_take_26 rfl (lv_at hl 0 rfl) ?_
  refine lv_iushr hx hb dX4_take_27 rfl ?_
  refine lv_topi (fun z_3 ez_3 => ?_)
  refine lv_sipush (v := 255) hx hb dX4_take_28 (by decide) ?_
  refine lv_iand hx hb dX4_take_31 ?_
  refine lv_topi (fun z_4 ez_4 => ?_)
  refine va_iast hx hb hK hP hD hS 1 0 rfl rfl (by unfold vp_in; decide) dX4_take_32 (fun H locs hP hD hS => ?_)
  have hP : va_P (dC, dI) cls [(rd, .inr (4, [.ref lenses_, .int 0, .int 8, .int 0, .int (-1), .int (-1), .ref tp, .ref names_, .ref quoted_, .ref links_, .ref walker2_, .int 0, .int 0, .int 0])), (tp, .inl (cI, 600, .inl (upd fA (8 : Int32).toNatClampNeg z_4)))] H := hP
  have hD : va_D A [(rd, .inr (4, [.ref lenses_, .int 0, .int 8, .int 0, .int (-1), .int (-1), .ref tp, .ref names_, .ref quoted_, .ref links_, .ref walker2_, .int 0, .int 0, .int 0])), (tp, .inl (cI, 600, .inl (upd fA (8 : Int32).toNatClampNeg z_4)))] := hD
  generalize (upd fA (8 : Int32).toNatClampNeg z_4) = g_5 at hP hD
  refine lv_aload_n hx hb dX4_take_33 rfl (lv_at hl 1 rfl) ?_
  refine lv_dup hx hb dX4_take_34 rfl ?_
  refine va_get (D := (dC, dI)) (ci := 4) (v := .int 8) (C := RX4) (T := TX4) (N := 14) hx hb hts ik_take8_RX4 hown hK hP 0 rfl rfl 2 (by decide) (hts (.fieldLink RX4 43 "PutBack$Reader" "length" "I") (by decide +kernel)) (fun _ h9 => h9) rfl dX4_take_35 ?_
  refine lv_iconst (v := 1) hx hb dX4_take_38 (by decide) ?_
  refine lv_iadd hx hb dX4_take_39 ?_
  refine lv_topi (fun z_6 ez_6 => ?_)
  obtain rfl : z_6 = (9 : Int32) := ez_6.trans (by decide)
  refine va_put (D := (dC, dI)) (ci := 4) (v := .int 9) (ty := .int) (C := RX4) (T := TX4) (N := 14) hx hb hts ik_take8_RX4 tyX4 tyX4_ok nmX4 hown hK hP hD hS 0 rfl rfl 2 (by decide) (hts (.fieldLink RX4 43 "PutBack$Reader" "length" "I") (by decide +kernel)) (fun _ h9 => h9) rfl (by decide +kernel) rfl rfl (Nat.le_of_ble_eq_true rfl) dX4_take_40 (fun H locs hP hD hS => ?_)
  have hP : va_P (dC, dI) cls [(rd, .inr (4, [.ref lenses_, .int 0, .int 9, .int 0, .int (-1), .int (-1), .ref tp, .ref names_, .ref quoted_, .ref links_, .ref walker2_, .int 0, .int 0, .int 0])), (tp, .inl (cI, 600, .inl g_5))] H := hP
  have hD : va_D A [(rd, .inr (4, [.ref lenses_, .int 0, .int 9, .int 0, .int (-1), .int (-1), .ref tp, .ref names_, .ref quoted_, .ref links_, .ref walker2_, .int 0, .int 0, .int 0])), (tp, .inl (cI, 600, .inl g_5))] := hD
  refine lv_iinc (v := 16) (lv' := [(2, .int 16), (0, .ref rd), (1, .int v1)]) hx hb dX4_take_43 hl (k := 0) rfl (by decide) (by decide) rfl (fun ls hl => ?_)
  refine lv_goto (tgt := 3) hx hb dX4_take_46 (by decide) ?_
  refine lv_iload_n hx hb dX4_take_3 rfl (lv_at hl 0 rfl) ?_
  refine lv_if_lt (tgt := 49) hx hb dX4_take_4 (by decide) (fun c_7 => ?_) (fun c_7 => ?_)
  · exact (by revert c_7; decide : False).elim
  refine lv_aload_n hx hb dX4_take_7 rfl (lv_at hl 1 rfl) ?_
  refine va_get (D := (dC, dI)) (ci := 4) (v := .int 9) (C := RX4) (T := TX4) (N := 14) hx hb hts ik_take8_RX4 hown hK hP 0 rfl rfl 2 (by decide) (hts (.fieldLink RX4 43 "PutBack$Reader" "length" "I") (by decide +kernel)) (fun _ h9 => h9) rfl dX4_take_8 ?_
  refine lv_sipush (v := 600) hx hb dX4_take_11 (by decide) ?_
  refine lv_icmp_ge (tgt := 49) hx hb dX4_take_14 (by decide) (fun c_8 => ?_) (fun c_8 => ?_)
  · exact (by revert c_8; decide : False).elim
  refine lv_aload_n hx hb dX4_take_17 rfl (lv_at hl 1 rfl) ?_
  refine va_get (D := (dC, dI)) (ci := 4) (v := .ref tp) (C := RX4) (T := TX4) (N := 14) hx hb hts ik_take8_RX4 hown hK hP 0 rfl rfl 6 (by decide) (hts (.fieldLink RX4 24 "PutBack$Reader" "tape" "[I") (by decide +kernel)) (fun _ h9 => h9) rfl dX4_take_18 ?_
  refine lv_aload_n hx hb dX4_take_21 rfl (lv_at hl 1 rfl) ?_
  refine va_get (D := (dC, dI)) (ci := 4) (v := .int 9) (C := RX4) (T := TX4) (N := 14) hx hb hts ik_take8_RX4 hown hK hP 0 rfl rfl 2 (by decide) (hts (.fieldLink RX4 43 "PutBack$Reader" "length" "I") (by decide +kernel)) (fun _ h9 => h9) rfl dX4_take_22 ?_
  refine lv_iload_n hx hb dX4_take_25 rfl (lv_at hl 2 rfl) ?_
  refine lv_iload_n hx hb dX4_take_26 rfl (lv_at hl 0 rfl) ?_
  refine lv_iushr hx hb dX4_take_27 rfl ?_
  refine lv_topi (fun z_9 ez_9 => ?_)
  refine lv_sipush (v := 255) hx hb dX4_take_28 (by decide) ?_
  refine lv_iand hx hb dX4_take_31 ?_
  refine lv_topi (fun z_10 ez_10 => ?_)
  refine va_iast hx hb hK hP hD hS 1 0 rfl rfl (by unfold vp_in; decide) dX4_take_32 (fun H locs hP hD hS => ?_)
  have hP : va_P (dC, dI) cls [(rd, .inr (4, [.ref lenses_, .int 0, .int 9, .int 0, .int (-1), .int (-1), .ref tp, .ref names_, .ref quoted_, .ref links_, .ref walker2_, .int 0, .int 0, .int 0])), (tp, .inl (cI, 600, .inl (upd g_5 (9 : Int32).toNatClampNeg z_10)))] H := hP
  have hD : va_D A [(rd, .inr (4, [.ref lenses_, .int 0, .int 9, .int 0, .int (-1), .int (-1), .ref tp, .ref names_, .ref quoted_, .ref links_, .ref walker2_, .int 0, .int 0, .int 0])), (tp, .inl (cI, 600, .inl (upd g_5 (9 : Int32).toNatClampNeg z_10)))] := hD
  generalize (upd g_5 (9 : Int32).toNatClampNeg z_10) = g_11 at hP hD
  refine lv_aload_n hx hb dX4_take_33 rfl (lv_at hl 1 rfl) ?_
  refine lv_dup hx hb dX4_take_34 rfl ?_
  refine va_get (D := (dC, dI)) (ci := 4) (v := .int 9) (C := RX4) (T := TX4) (N := 14) hx hb hts ik_take8_RX4 hown hK hP 0 rfl rfl 2 (by decide) (hts (.fieldLink RX4 43 "PutBack$Reader" "length" "I") (by decide +kernel)) (fun _ h9 => h9) rfl dX4_take_35 ?_
  refine lv_iconst (v := 1) hx hb dX4_take_38 (by decide) ?_
  refine lv_iadd hx hb dX4_take_39 ?_
  refine lv_topi (fun z_12 ez_12 => ?_)
  obtain rfl : z_12 = (10 : Int32) := ez_12.trans (by decide)
  refine va_put (D := (dC, dI)) (ci := 4) (v := .int 10) (ty := .int) (C := RX4) (T := TX4) (N := 14) hx hb hts ik_take8_RX4 tyX4 tyX4_ok nmX4 hown hK hP hD hS 0 rfl rfl 2 (by decide) (hts (.fieldLink RX4 43 "PutBack$Reader" "length" "I") (by decide +kernel)) (fun _ h9 => h9) rfl (by decide +kernel) rfl rfl (Nat.le_of_ble_eq_true rfl) dX4_take_40 (fun H locs hP hD hS => ?_)
  have hP : va_P (dC, dI) cls [(rd, .inr (4, [.ref lenses_, .int 0, .int 10, .int 0, .int (-1), .int (-1), .ref tp, .ref names_, .ref quoted_, .ref links_, .ref walker2_, .int 0, .int 0, .int 0])), (tp, .inl (cI, 600, .inl g_11))] H := hP
  have hD : va_D A [(rd, .inr (4, [.ref lenses_, .int 0, .int 10, .int 0, .int (-1), .int (-1), .ref tp, .ref names_, .ref quoted_, .ref links_, .ref walker2_, .int 0, .int 0, .int 0])), (tp, .inl (cI, 600, .inl g_11))] := hD
  refine lv_iinc (v := 8) (lv' := [(2, .int 8), (0, .ref rd), (1, .int v1)]) hx hb dX4_take_43 hl (k := 0) rfl (by decide) (by decide) rfl (fun ls hl => ?_)
  refine lv_goto (tgt := 3) hx hb dX4_take_46 (by decide) ?_
  refine lv_iload_n hx hb dX4_take_3 rfl (lv_at hl 0 rfl) ?_
  refine lv_if_lt (tgt := 49) hx hb dX4_take_4 (by decide) (fun c_13 => ?_) (fun c_13 => ?_)
  · exact (by revert c_13; decide : False).elim
  refine lv_aload_n hx hb dX4_take_7 rfl (lv_at hl 1 rfl) ?_
  refine va_get (D := (dC, dI)) (ci := 4) (v := .int 10) (C := RX4) (T := TX4) (N := 14) hx hb hts ik_take8_RX4 hown hK hP 0 rfl rfl 2 (by decide) (hts (.fieldLink RX4 43 "PutBack$Reader" "length" "I") (by decide +kernel)) (fun _ h9 => h9) rfl dX4_take_8 ?_
  refine lv_sipush (v := 600) hx hb dX4_take_11 (by decide) ?_
  refine lv_icmp_ge (tgt := 49) hx hb dX4_take_14 (by decide) (fun c_14 => ?_) (fun c_14 => ?_)
  · exact (by revert c_14; decide : False).elim
  refine lv_aload_n hx hb dX4_take_17 rfl (lv_at hl 1 rfl) ?_
  refine va_get (D := (dC, dI)) (ci := 4) (v := .ref tp) (C := RX4) (T := TX4) (N := 14) hx hb hts ik_take8_RX4 hown hK hP 0 rfl rfl 6 (by decide) (hts (.fieldLink RX4 24 "PutBack$Reader" "tape" "[I") (by decide +kernel)) (fun _ h9 => h9) rfl dX4_take_18 ?_
  refine lv_aload_n hx hb dX4_take_21 rfl (lv_at hl 1 rfl) ?_
  refine va_get (D := (dC, dI)) (ci := 4) (v := .int 10) (C := RX4) (T := TX4) (N := 14) hx hb hts ik_take8_RX4 hown hK hP 0 rfl rfl 2 (by decide) (hts (.fieldLink RX4 43 "PutBack$Reader" "length" "I") (by decide +kernel)) (fun _ h9 => h9) rfl dX4_take_22 ?_
  refine lv_iload_n hx hb dX4_take_25 rfl (lv_at hl 2 rfl) ?_
  refine lv_iload_n hx hb dX4_take_26 rfl (lv_at hl 0 rfl) ?_
  refine lv_iushr hx hb dX4_take_27 rfl ?_
  refine lv_topi (fun z_15 ez_15 => ?_)
  refine lv_sipush (v := 255) hx hb dX4_take_28 (by decide) ?_
  refine lv_iand hx hb dX4_take_31 ?_
  refine lv_topi (fun z_16 ez_16 => ?_)
  refine va_iast hx hb hK hP hD hS 1 0 rfl rfl (by unfold vp_in; decide) dX4_take_32 (fun H locs hP hD hS => ?_)
  have hP : va_P (dC, dI) cls [(rd, .inr (4, [.ref lenses_, .int 0, .int 10, .int 0, .int (-1), .int (-1), .ref tp, .ref names_, .ref quoted_, .ref links_, .ref walker2_, .int 0, .int 0, .int 0])), (tp, .inl (cI, 600, .inl (upd g_11 (10 : Int32).toNatClampNeg z_16)))] H := hP
  have hD : va_D A [(rd, .inr (4, [.ref lenses_, .int 0, .int 10, .int 0, .int (-1), .int (-1), .ref tp, .ref names_, .ref quoted_, .ref links_, .ref walker2_, .int 0, .int 0, .int 0])), (tp, .inl (cI, 600, .inl (upd g_11 (10 : Int32).toNatClampNeg z_16)))] := hD
  generalize (upd g_11 (10 : Int32).toNatClampNeg z_16) = g_17 at hP hD
  refine lv_aload_n hx hb dX4_take_33 rfl (lv_at hl 1 rfl) ?_
  refine lv_dup hx hb dX4_take_34 rfl ?_
  refine va_get (D := (dC, dI)) (ci := 4) (v := .int 10) (C := RX4) (T := TX4) (N := 14) hx hb hts ik_take8_RX4 hown hK hP 0 rfl rfl 2 (by decide) (hts (.fieldLink RX4 43 "PutBack$Reader" "length" "I") (by decide +kernel)) (fun _ h9 => h9) rfl dX4_take_35 ?_
  refine lv_iconst (v := 1) hx hb dX4_take_38 (by decide) ?_
  refine lv_iadd hx hb dX4_take_39 ?_
  refine lv_topi (fun z_18 ez_18 => ?_)
  obtain rfl : z_18 = (11 : Int32) := ez_18.trans (by decide)
  refine va_put (D := (dC, dI)) (ci := 4) (v := .int 11) (ty := .int) (C := RX4) (T := TX4) (N := 14) hx hb hts ik_take8_RX4 tyX4 tyX4_ok nmX4 hown hK hP hD hS 0 rfl rfl 2 (by decide) (hts (.fieldLink RX4 43 "PutBack$Reader" "length" "I") (by decide +kernel)) (fun _ h9 => h9) rfl (by decide +kernel) rfl rfl (Nat.le_of_ble_eq_true rfl) dX4_take_40 (fun H locs hP hD hS => ?_)
  have hP : va_P (dC, dI) cls [(rd, .inr (4, [.ref lenses_, .int 0, .int 11, .int 0, .int (-1), .int (-1), .ref tp, .ref names_, .ref quoted_, .ref links_, .ref walker2_, .int 0, .int 0, .int 0])), (tp, .inl (cI, 600, .inl g_17))] H := hP
  have hD : va_D A [(rd, .inr (4, [.ref lenses_, .int 0, .int 11, .int 0, .int (-1), .int (-1), .ref tp, .ref names_, .ref quoted_, .ref links_, .ref walker2_, .int 0, .int 0, .int 0])), (tp, .inl (cI, 600, .inl g_17))] := hD
  refine lv_iinc (v := 0) (lv' := [(2, .int 0), (0, .ref rd), (1, .int v1)]) hx hb dX4_take_43 hl (k := 0) rfl (by decide) (by decide) rfl (fun ls hl => ?_)
  refine lv_goto (tgt := 3) hx hb dX4_take_46 (by decide) ?_
  refine lv_iload_n hx hb dX4_take_3 rfl (lv_at hl 0 rfl) ?_
  refine lv_if_lt (tgt := 49) hx hb dX4_take_4 (by decide) (fun c_19 => ?_) (fun c_19 => ?_)
  · exact (by revert c_19; decide : False).elim
  refine lv_aload_n hx hb dX4_take_7 rfl (lv_at hl 1 rfl) ?_
  refine va_get (D := (dC, dI)) (ci := 4) (v := .int 11) (C := RX4) (T := TX4) (N := 14) hx hb hts ik_take8_RX4 hown hK hP 0 rfl rfl 2 (by decide) (hts (.fieldLink RX4 43 "PutBack$Reader" "length" "I") (by decide +kernel)) (fun _ h9 => h9) rfl dX4_take_8 ?_
  refine lv_sipush (v := 600) hx hb dX4_take_11 (by decide) ?_
  refine lv_icmp_ge (tgt := 49) hx hb dX4_take_14 (by decide) (fun c_20 => ?_) (fun c_20 => ?_)
  · exact (by revert c_20; decide : False).elim
  refine lv_aload_n hx hb dX4_take_17 rfl (lv_at hl 1 rfl) ?_
  refine va_get (D := (dC, dI)) (ci := 4) (v := .ref tp) (C := RX4) (T := TX4) (N := 14) hx hb hts ik_take8_RX4 hown hK hP 0 rfl rfl 6 (by decide) (hts (.fieldLink RX4 24 "PutBack$Reader" "tape" "[I") (by decide +kernel)) (fun _ h9 => h9) rfl dX4_take_18 ?_
  refine lv_aload_n hx hb dX4_take_21 rfl (lv_at hl 1 rfl) ?_
  refine va_get (D := (dC, dI)) (ci := 4) (v := .int 11) (C := RX4) (T := TX4) (N := 14) hx hb hts ik_take8_RX4 hown hK hP 0 rfl rfl 2 (by decide) (hts (.fieldLink RX4 43 "PutBack$Reader" "length" "I") (by decide +kernel)) (fun _ h9 => h9) rfl dX4_take_22 ?_
  refine lv_iload_n hx hb dX4_take_25 rfl (lv_at hl 2 rfl) ?_
  refine lv_iload_n hx hb dX4_take_26 rfl (lv_at hl 0 rfl) ?_
  refine lv_iushr hx hb dX4_take_27 rfl ?_
  refine lv_topi (fun z_21 ez_21 => ?_)
  refine lv_sipush (v := 255) hx hb dX4_take_28 (by decide) ?_
  refine lv_iand hx hb dX4_take_31 ?_
  refine lv_topi (fun z_22 ez_22 => ?_)
  refine va_iast hx hb hK hP hD hS 1 0 rfl rfl (by unfold vp_in; decide) dX4_take_32 (fun H locs hP hD hS => ?_)
  have hP : va_P (dC, dI) cls [(rd, .inr (4, [.ref lenses_, .int 0, .int 11, .int 0, .int (-1), .int (-1), .ref tp, .ref names_, .ref quoted_, .ref links_, .ref walker2_, .int 0, .int 0, .int 0])), (tp, .inl (cI, 600, .inl (upd g_17 (11 : Int32).toNatClampNeg z_22)))] H := hP
  have hD : va_D A [(rd, .inr (4, [.ref lenses_, .int 0, .int 11, .int 0, .int (-1), .int (-1), .ref tp, .ref names_, .ref quoted_, .ref links_, .ref walker2_, .int 0, .int 0, .int 0])), (tp, .inl (cI, 600, .inl (upd g_17 (11 : Int32).toNatClampNeg z_22)))] := hD
  generalize (upd g_17 (11 : Int32).toNatClampNeg z_22) = g_23 at hP hD
  refine lv_aload_n hx hb dX4_take_33 rfl (lv_at hl 1 rfl) ?_
  refine lv_dup hx hb dX4_take_34 rfl ?_
  refine va_get (D := (dC, dI)) (ci := 4) (v := .int 11) (C := RX4) (T := TX4) (N := 14) hx hb hts ik_take8_RX4 hown hK hP 0 rfl rfl 2 (by decide) (hts (.fieldLink RX4 43 "PutBack$Reader" "length" "I") (by decide +kernel)) (fun _ h9 => h9) rfl dX4_take_35 ?_
  refine lv_iconst (v := 1) hx hb dX4_take_38 (by decide) ?_
  refine lv_iadd hx hb dX4_take_39 ?_
  refine lv_topi (fun z_24 ez_24 => ?_)
  obtain rfl : z_24 = (12 : Int32) := ez_24.trans (by decide)
  refine va_put (D := (dC, dI)) (ci := 4) (v := .int 12) (ty := .int) (C := RX4) (T := TX4) (N := 14) hx hb hts ik_take8_RX4 tyX4 tyX4_ok nmX4 hown hK hP hD hS 0 rfl rfl 2 (by decide) (hts (.fieldLink RX4 43 "PutBack$Reader" "length" "I") (by decide +kernel)) (fun _ h9 => h9) rfl (by decide +kernel) rfl rfl (Nat.le_of_ble_eq_true rfl) dX4_take_40 (fun H locs hP hD hS => ?_)
  have hP : va_P (dC, dI) cls [(rd, .inr (4, [.ref lenses_, .int 0, .int 12, .int 0, .int (-1), .int (-1), .ref tp, .ref names_, .ref quoted_, .ref links_, .ref walker2_, .int 0, .int 0, .int 0])), (tp, .inl (cI, 600, .inl g_23))] H := hP
  have hD : va_D A [(rd, .inr (4, [.ref lenses_, .int 0, .int 12, .int 0, .int (-1), .int (-1), .ref tp, .ref names_, .ref quoted_, .ref links_, .ref walker2_, .int 0, .int 0, .int 0])), (tp, .inl (cI, 600, .inl g_23))] := hD
  refine lv_iinc (v := (-8)) (lv' := [(2, .int (-8)), (0, .ref rd), (1, .int v1)]) hx hb dX4_take_43 hl (k := 0) rfl (by decide) (by decide) rfl (fun ls hl => ?_)
  refine lv_goto (tgt := 3) hx hb dX4_take_46 (by decide) ?_
  refine lv_iload_n hx hb dX4_take_3 rfl (lv_at hl 0 rfl) ?_
  refine lv_if_lt (tgt := 49) hx hb dX4_take_4 (by decide) (fun c_25 => ?_) (fun c_25 => ?_)
  rotate_left
  · exact (by revert c_25; decide : False).elim
  have hK9 := hK.sub (tys' := [(cI, .int)]) [0] rfl
  have hP9 := hP.sub (ws' := [(rd, .inr (4, [.ref lenses_, .int 0, .int 12, .int 0, .int (-1), .int (-1), .ref tp, .ref names_, .ref quoted_, .ref links_, .ref walker2_, .int 0, .int 0, .int 0])), (tp, .inl (cI, 600, .inl g_23))]) [0, 1] rfl
  have hD9 := hD.sub (ws' := [(rd, .inr (4, [.ref lenses_, .int 0, .int 12, .int 0, .int (-1), .int (-1), .ref tp, .ref names_, .ref quoted_, .ref links_, .ref walker2_, .int 0, .int 0, .int 0])), (tp, .inl (cI, 600, .inl g_23))]) [0, 1] (by decide) rfl
  exact W.vret hx hb hr (fun t ht hW => ⟨⟨(), rfl, trivial, g_23, by rw [ht]; exact hP9, va_K.moved hW.alike hK9, hD9⟩, hS.F ht⟩) hS.2.2 dX4_take_49
def wk_take12 : List Cond := .code yX4_take cX4_take 3 none :: ([.fieldLink RX4 43 "PutBack$Reader" "length" "I", .fieldLink RX4 24 "PutBack$Reader" "tape" "[I"] ++ wsX40)
theorem ik_take12_RX4 : ∀ w ∈ u_ws RX4 TX4 14, w ∈ wk_take12 := fun w h => List.mem_cons_of_mem _ (List.mem_append_right _ h)
set_option maxHeartbeats 4000000 in
set_option maxRecDepth 100000 in
theorem k_take12 (l : Launch) (dC : Nat → ClassId) (dI : Nat → Nat → Nat) (sz : Nat) (rd : Nat) (v1 : Int32) (lenses_ : Nat) (tp : Nat) (names_ : Nat) (quoted_ : Nat) (links_ : Nat) (walker2_ : Nat) (cI : ClassId) (fA : Nat → Int32) : Met l yX4_take wk_take12 ({ frames := 0, cells := 0, slots := 0, locals := 0 } : Room) (va_Pc [.ref rd, .int v1] (fun U => U.heap.size = sz ∧ va_P (dC, dI) cls [(rd, .inr (4, [.ref lenses_, .int 0, .int 12, .int 0, .int (-1), .int (-1), .ref tp, .ref names_, .ref quoted_, .ref links_, .ref walker2_, .int 0, .int 0, .int 0])), (tp, .inl (cI, 600, .inl fA))] U.heap ∧ va_K (dC, dI) cls [(cI, .int)] U ∧ va_D (fun _ => True) [(rd, .inr (4, [.ref lenses_, .int 0, .int 12, .int 0, .int (-1), .int (-1), .ref tp, .ref names_, .ref quoted_, .ref links_, .ref walker2_, .int 0, .int 0, .int 0])), (tp, .inl (cI, 600, .inl fA))])) (va_Qv (fun _ : Unit => True) (fun (_ : Unit) t => ∃ gT : Nat → Int32, va_P (dC, dI) cls [(rd, .inr (4, [.ref lenses_, .int 0, .int 16, .int 0, .int (-1), .int (-1), .ref tp, .ref names_, .ref quoted_, .ref links_, .ref walker2_, .int 0, .int 0, .int 0])), (tp, .inl (cI, 600, .inl gT))] t.heap ∧ va_K (dC, dI) cls [(cI, .int)] t ∧ va_D (va_A [(rd, .inr (4, [.ref lenses_, .int 0, .int 12, .int 0, .int (-1), .int (-1), .ref tp, .ref names_, .ref quoted_, .ref links_, .ref walker2_, .int 0, .int 0, .int 0])), (tp, .inl (cI, 600, .inl fA))] sz) [(rd, .inr (4, [.ref lenses_, .int 0, .int 16, .int 0, .int (-1), .int (-1), .ref tp, .ref names_, .ref quoted_, .ref links_, .ref walker2_, .int 0, .int 0, .int 0])), (tp, .inl (cI, 600, .inl gT))]) (va_A [(rd, .inr (4, [.ref lenses_, .int 0, .int 12, .int 0, .int (-1), .int (-1), .ref tp, .ref names_, .ref quoted_, .ref links_, .ref walker2_, .int 0, .int 0, .int 0])), (tp, .inl (cI, 600, .inl fA))] sz)) 0 0 (va_A [(rd, .inr (4, [.ref lenses_, .int 0, .int 12, .int 0, .int (-1), .int (-1), .ref tp, .ref names_, .ref quoted_, .ref links_, .ref walker2_, .int 0, .int 0, .int 0])), (tp, .inl (cI, 600, .inl fA))] sz) := by
  refine Met.ofW (cc := cX4_take) (maxL := 3) (ret := none) (by decide) rfl ?_
  intro p e s m args below meth c s₁ B hml hv
  obtain ⟨rfl, hsz, hP, hK, hD0⟩ := hv
  have hx := B.exec
  have hb := B.bytes
  have hr := B.returns
  have hts := atoms_spec (ws := wk_take12) B.pre
  have hown : s.vm.findClass RX4 = some m.cls := findClass_of_methodNamed B.named
  have hlocks := B.notSynchronized
  subst hsz
  have hD := hD0.self (sz := s.heap.size)
  generalize hAe : va_A [(rd, .inr (4, [.ref lenses_, .int 0, .int 12, .int 0, .int (-1), .int (-1), .ref tp, .ref names_, .ref quoted_, .ref links_, .ref walker2_, .int 0, .int 0, .int 0])), (tp, .inl (cI, 600, .inl fA))] s.heap.size = A at hD ⊢
  have hA : ∀ q : Nat, s.heap.size ≤ q → A q := fun q h => by rw [← hAe]; exact Or.inr h
  have hP : va_P (dC, dI) cls [(rd, .inr (4, [.ref lenses_, .int 0, .int 12, .int 0, .int (-1), .int (-1), .ref tp, .ref names_, .ref quoted_, .ref links_, .ref walker2_, .int 0, .int 0, .int 0])), (tp, .inl (cI, 600, .inl fA))] s.heap := hP
  have hl := lv_entry ([.ref rd, .int v1]) (n := 3) (Nat.le_of_ble_eq_true rfl)
  rw [lg_entry_eq]
  generalize (lg_sl ([.ref rd, .int v1]) ++ List.replicate (3 - (lg_sl ([.ref rd, .int v1])).length) Slot.unset).toArray = ls at hl ⊢
  have hl : lv_has ls 3 [(0, .ref rd), (1, .int v1)] := hl
  obtain ⟨H, hH⟩ : ∃ H : Heap, s.heap = H := ⟨_, rfl⟩
  rw [hH] at hP ⊢
  have hS : va_S A s.heap H [] := by rw [← hH]; exact va_S.rf
  refine lv_bipush (v := 24) hx hb dX4_take_0 (by decide) ?_
  refine lv_istore_n (lv' := [(2, .int 24), (0, .ref rd), (1, .int v1)]) hx hb dX4_take_2 rfl hl (by decide) rfl (fun ls hl => ?_)
  refine lv_iload_n hx hb dX4_take_3 rfl (lv_at hl 0 rfl) ?_
  refine lv_if_lt (tgt := 49) hx hb dX4_take_4 (by decide) (fun c_1 => ?_) (fun c_1 => ?_)
  · exact (by revert c_1; decide : False).elim
  refine lv_aload_n hx hb dX4_take_7 rfl (lv_at hl 1 rfl) ?_
  refine va_get (D := (dC, dI)) (ci := 4) (v := .int 12) (C := RX4) (T := TX4) (N := 14) hx hb hts ik_take12_RX4 hown hK hP 0 rfl rfl 2 (by decide) (hts (.fieldLink RX4 43 "PutBack$Reader" "length" "I") (by decide +kernel)) (fun _ h9 => h9) rfl dX4_take_8 ?_
  refine lv_sipush (v := 600) hx hb dX4_take_11 (by decide) ?_
  refine lv_icmp_ge (tgt := 49) hx hb dX4_take_14 (by decide) (fun c_2 => ?_) (fun c_2 => ?_)
  · exact (by revert c_2; decide : False).elim
  refine lv_aload_n hx hb dX4_take_17 rfl (lv_at hl 1 rfl) ?_
  refine va_get (D := (dC, dI)) (ci := 4) (v := .ref tp) (C := RX4) (T := TX4) (N := 14) hx hb hts ik_take12_RX4 hown hK hP 0 rfl rfl 6 (by decide) (hts (.fieldLink RX4 24 "PutBack$Reader" "tape" "[I") (by decide +kernel)) (fun _ h9 => h9) rfl dX4_take_18 ?_
  refine lv_aload_n hx hb dX4_take_21 rfl (lv_at hl 1 rfl) ?_
  refine va_get (D := (dC, dI)) (ci := 4) (v := .int 12) (C := RX4) (T := TX4) (N := 14) hx hb hts ik_take12_RX4 hown hK hP 0 rfl rfl 2 (by decide) (hts (.fieldLink RX4 43 "PutBack$Reader" "length" "I") (by decide +kernel)) (fun _ h9 => h9) rfl dX4_take_22 ?_
  refine lv_iload_n hx hb dX4_take_25 rfl (lv_at hl 2 rfl) ?_
  refine lv_iload_n hx hb dX4_take_26 rfl (lv_at hl 0 rfl) ?_
  refine lv_iushr hx hb dX4_take_27 rfl ?_
  refine lv_topi (fun z_3 ez_3 => ?_)
  refine lv_sipush (v := 255) hx hb dX4_take_28 (by decide) ?_
  refine lv_iand hx hb dX4_take_31 ?_
  refine lv_topi (fun z_4 ez_4 => ?_)
  refine va_iast hx hb hK hP hD hS 1 0 rfl rfl (by unfold vp_in; decide) dX4_take_32 (fun H locs hP hD hS => ?_)
  have hP : va_P (dC, dI) cls [(rd, .inr (4, [.ref lenses_, .int 0, .int 12, .int 0, .int (-1), .int (-1), .ref tp, .ref names_, .ref quoted_, .ref links_, .ref walker2_, .int 0, .int 0, .int 0])), (tp, .inl (cI, 600, .inl (upd fA (12 : Int32).toNatClampNeg z_4)))] H := hP
  have hD : va_D A [(rd, .inr (4, [.ref lenses_, .int 0, .int 12, .int 0, .int (-1), .int (-1), .ref tp, .ref names_, .ref quoted_, .ref links_, .ref walker2_, .int 0, .int 0, .int 0])), (tp, .inl (cI, 600, .inl (upd fA (12 : Int32).toNatClampNeg z_4)))] := hD
  generalize (upd fA (12 : Int32).toNatClampNeg z_4) = g_5 at hP hD
  refine lv_aload_n hx hb dX4_take_33 rfl (lv_at hl 1 rfl) ?_
  refine lv_dup hx hb dX4_take_34 rfl ?_
  refine va_get (D := (dC, dI)) (ci := 4) (v := .int 12) (C := RX4) (T := TX4) (N := 14) hx hb hts ik_take12_RX4 hown hK hP 0 rfl rfl 2 (by decide) (hts (.fieldLink RX4 43 "PutBack$Reader" "length" "I") (by decide +kernel)) (fun _ h9 => h9) rfl dX4_take_35 ?_
  refine lv_iconst (v := 1) hx hb dX4_take_38 (by decide) ?_
  refine lv_iadd hx hb dX4_take_39 ?_
  refine lv_topi (fun z_6 ez_6 => ?_)
  obtain rfl : z_6 = (13 : Int32) := ez_6.trans (by decide)
  refine va_put (D := (dC, dI)) (ci := 4) (v := .int 13) (ty := .int) (C := RX4) (T := TX4) (N := 14) hx hb hts ik_take12_RX4 tyX4 tyX4_ok nmX4 hown hK hP hD hS 0 rfl rfl 2 (by decide) (hts (.fieldLink RX4 43 "PutBack$Reader" "length" "I") (by decide +kernel)) (fun _ h9 => h9) rfl (by decide +kernel) rfl rfl (Nat.le_of_ble_eq_true rfl) dX4_take_40 (fun H locs hP hD hS => ?_)
  have hP : va_P (dC, dI) cls [(rd, .inr (4, [.ref lenses_, .int 0, .int 13, .int 0, .int (-1), .int (-1), .ref tp, .ref names_, .ref quoted_, .ref links_, .ref walker2_, .int 0, .int 0, .int 0])), (tp, .inl (cI, 600, .inl g_5))] H := hP
  have hD : va_D A [(rd, .inr (4, [.ref lenses_, .int 0, .int 13, .int 0, .int (-1), .int (-1), .ref tp, .ref names_, .ref quoted_, .ref links_, .ref walker2_, .int 0, .int 0, .int 0])), (tp, .inl (cI, 600, .inl g_5))] := hD
  refine lv_iinc (v := 16) (lv' := [(2, .int 16), (0, .ref rd), (1, .int v1)]) hx hb dX4_take_43 hl (k := 0) rfl (by decide) (by decide) rfl (fun ls hl => ?_)
  refine lv_goto (tgt := 3) hx hb dX4_take_46 (by decide) ?_
  refine lv_iload_n hx hb dX4_take_3 rfl (lv_at hl 0 rfl) ?_
  refine lv_if_lt (tgt := 49) hx hb dX4_take_4 (by decide) (fun c_7 => ?_) (fun c_7 => ?_)
  · exact (by revert c_7; decide : False).elim
  refine lv_aload_n hx hb dX4_take_7 rfl (lv_at hl 1 rfl) ?_
  refine va_get (D := (dC, dI)) (ci := 4) (v := .int 13) (C := RX4) (T := TX4) (N := 14) hx hb hts ik_take12_RX4 hown hK hP 0 rfl rfl 2 (by decide) (hts (.fieldLink RX4 43 "PutBack$Reader" "length" "I") (by decide +kernel)) (fun _ h9 => h9) rfl dX4_take_8 ?_
  refine lv_sipush (v := 600) hx hb dX4_take_11 (by decide) ?_
  refine lv_icmp_ge (tgt := 49) hx hb dX4_take_14 (by decide) (fun c_8 => ?_) (fun c_8 => ?_)
  · exact (by revert c_8; decide : False).elim
  refine lv_aload_n hx hb dX4_take_17 rfl (lv_at hl 1 rfl) ?_
  refine va_get (D := (dC, dI)) (ci := 4) (v := .ref tp) (C := RX4) (T := TX4) (N := 14) hx hb hts ik_take12_RX4 hown hK hP 0 rfl rfl 6 (by decide) (hts (.fieldLink RX4 24 "PutBack$Reader" "tape" "[I") (by decide +kernel)) (fun _ h9 => h9) rfl dX4_take_18 ?_
  refine lv_aload_n hx hb dX4_take_21 rfl (lv_at hl 1 rfl) ?_
  refine va_get (D := (dC, dI)) (ci := 4) (v := .int 13) (C := RX4) (T := TX4) (N := 14) hx hb hts ik_take12_RX4 hown hK hP 0 rfl rfl 2 (by decide) (hts (.fieldLink RX4 43 "PutBack$Reader" "length" "I") (by decide +kernel)) (fun _ h9 => h9) rfl dX4_take_22 ?_
  refine lv_iload_n hx hb dX4_take_25 rfl (lv_at hl 2 rfl) ?_
  refine lv_iload_n hx hb dX4_take_26 rfl (lv_at hl 0 rfl) ?_
  refine lv_iushr hx hb dX4_take_27 rfl ?_
  refine lv_topi (fun z_9 ez_9 => ?_)
  refine lv_sipush (v := 255) hx hb dX4_take_28 (by decide) ?_
  refine lv_iand hx hb dX4_take_31 ?_
  refine lv_topi (fun z_10 ez_10 => ?_)
  refine va_iast hx hb hK hP hD hS 1 0 rfl rfl (by unfold vp_in; decide) dX4_take_32 (fun H locs hP hD hS => ?_)
  have hP : va_P (dC, dI) cls [(rd, .inr (4, [.ref lenses_, .int 0, .int 13, .int 0, .int (-1), .int (-1), .ref tp, .ref names_, .ref quoted_, .ref links_, .ref walker2_, .int 0, .int 0, .int 0])), (tp, .inl (cI, 600, .inl (upd g_5 (13 : Int32).toNatClampNeg z_10)))] H := hP
  have hD : va_D A [(rd, .inr (4, [.ref lenses_, .int 0, .int 13, .int 0, .int (-1), .int (-1), .ref tp, .ref names_, .ref quoted_, .ref links_, .ref walker2_, .int 0, .int 0, .int 0])), (tp, .inl (cI, 600, .inl (upd g_5 (13 : Int32).toNatClampNeg z_10)))] := hD
  generalize (upd g_5 (13 : Int32).toNatClampNeg z_10) = g_11 at hP hD
  refine lv_aload_n hx hb dX4_take_33 rfl (lv_at hl 1 rfl) ?_
  refine lv_dup hx hb dX4_take_34 rfl ?_
  refine va_get (D := (dC, dI)) (ci := 4) (v := .int 13) (C := RX4) (T := TX4) (N := 14) hx hb hts ik_take12_RX4 hown hK hP 0 rfl rfl 2 (by decide) (hts (.fieldLink RX4 43 "PutBack$Reader" "length" "I") (by decide +kernel)) (fun _ h9 => h9) rfl dX4_take_35 ?_
  refine lv_iconst (v := 1) hx hb dX4_take_38 (by decide) ?_
  refine lv_iadd hx hb dX4_take_39 ?_
  refine lv_topi (fun z_12 ez_12 => ?_)
  obtain rfl : z_12 = (14 : Int32) := ez_12.trans (by decide)
  refine va_put (D := (dC, dI)) (ci := 4) (v := .int 14) (ty := .int) (C := RX4) (T := TX4) (N := 14) hx hb hts ik_take12_RX4 tyX4 tyX4_ok nmX4 hown hK hP hD hS 0 rfl rfl 2 (by decide) (hts (.fieldLink RX4 43 "PutBack$Reader" "length" "I") (by decide +kernel)) (fun _ h9 => h9) rfl (by decide +kernel) rfl rfl (Nat.le_of_ble_eq_true rfl) dX4_take_40 (fun H locs hP hD hS => ?_)
  have hP : va_P (dC, dI) cls [(rd, .inr (4, [.ref lenses_, .int 0, .int 14, .int 0, .int (-1), .int (-1), .ref tp, .ref names_, .ref quoted_, .ref links_, .ref walker2_, .int 0, .int 0, .int 0])), (tp, .inl (cI, 600, .inl g_11))] H := hP
  have hD : va_D A [(rd, .inr (4, [.ref lenses_, .int 0, .int 14, .int 0, .int (-1), .int (-1), .ref tp, .ref names_, .ref quoted_, .ref links_, .ref walker2_, .int 0, .int 0, .int 0])), (tp, .inl (cI, 600, .inl g_11))] := hD
  refine lv_iinc (v := 8) (lv' := [(2, .int 8), (0, .ref rd), (1, .int v1)]) hx hb dX4_take_43 hl (k := 0) rfl (by decide) (by decide) rfl (fun ls hl => ?_)
  refine lv_goto (tgt := 3) hx hb dX4_take_46 (by decide) ?_
  refine lv_iload_n hx hb dX4_take_3 rfl (lv_at hl 0 rfl) ?_
  refine lv_if_lt (tgt := 49) hx hb dX4_take_4 (by decide) (fun c_13 => ?_) (fun c_13 => ?_)
  · exact (by revert c_13; decide : False).elim
  refine lv_aload_n hx hb dX4_take_7 rfl (lv_at hl 1 rfl) ?_
  refine va_get (D := (dC, dI)) (ci := 4) (v := .int 14) (C := RX4) (T := TX4) (N := 14) hx hb hts ik_take12_RX4 hown hK hP 0 rfl rfl 2 (by decide) (hts (.fieldLink RX4 43 "PutBack$Reader" "length" "I") (by decide +kernel)) (fun _ h9 => h9) rfl dX4_take_8 ?_
  refine lv_sipush (v := 600) hx hb dX4_take_11 (by decide) ?_
  refine lv_icmp_ge (tgt := 49) hx hb dX4_take_14 (by decide) (fun c_14 => ?_) (fun c_14 => ?_)
  · exact (by revert c_14; decide : False).elim
  refine lv_aload_n hx hb dX4_take_17 rfl (lv_at hl 1 rfl) ?_
  refine va_get (D := (dC, dI)) (ci := 4) (v := .ref tp) (C := RX4) (T := TX4) (N := 14) hx hb hts ik_take12_RX4 hown hK hP 0 rfl rfl 6 (by decide) (hts (.fieldLink RX4 24 "PutBack$Reader" "tape" "[I") (by decide +kernel)) (fun _ h9 => h9) rfl dX4_take_18 ?_
  refine lv_aload_n hx hb dX4_take_21 rfl (lv_at hl 1 rfl) ?_
  refine va_get (D := (dC, dI)) (ci := 4) (v := .int 14) (C := RX4) (T := TX4) (N := 14) hx hb hts ik_take12_RX4 hown hK hP 0 rfl rfl 2 (by decide) (hts (.fieldLink RX4 43 "PutBack$Reader" "length" "I") (by decide +kernel)) (fun _ h9 => h9) rfl dX4_take_22 ?_
  refine lv_iload_n hx hb dX4_take_25 rfl (lv_at hl 2 rfl) ?_
  refine lv_iload_n hx hb dX4_take_26 rfl (lv_at hl 0 rfl) ?_
  refine lv_iushr hx hb dX4_take_27 rfl ?_
  refine lv_topi (fun z_15 ez_15 => ?_)
  refine lv_sipush (v := 255) hx hb dX4_take_28 (by decide) ?_
  refine lv_iand hx hb dX4_take_31 ?_
  refine lv_topi (fun z_16 ez_16 => ?_)
  refine va_iast hx hb hK hP hD hS 1 0 rfl rfl (by unfold vp_in; decide) dX4_take_32 (fun H locs hP hD hS => ?_)
  have hP : va_P (dC, dI) cls [(rd, .inr (4, [.ref lenses_, .int 0, .int 14, .int 0, .int (-1), .int (-1), .ref tp, .ref names_, .ref quoted_, .ref links_, .ref walker2_, .int 0, .int 0, .int 0])), (tp, .inl (cI, 600, .inl (upd g_11 (14 : Int32).toNatClampNeg z_16)))] H := hP
  have hD : va_D A [(rd, .inr (4, [.ref lenses_, .int 0, .int 14, .int 0, .int (-1), .int (-1), .ref tp, .ref names_, .ref quoted_, .ref links_, .ref walker2_, .int 0, .int 0, .int 0])), (tp, .inl (cI, 600, .inl (upd g_11 (14 : Int32).toNatClampNeg z_16)))] := hD
  generalize (upd g_11 (14 : Int32).toNatClampNeg z_16) = g_17 at hP hD
  refine lv_aload_n hx hb dX4_take_33 rfl (lv_at hl 1 rfl) ?_
  refine lv_dup hx hb dX4_take_34 rfl ?_
  refine va_get (D := (dC, dI)) (ci := 4) (v := .int 14) (C := RX4) (T := TX4) (N := 14) hx hb hts ik_take12_RX4 hown hK hP 0 rfl rfl 2 (by decide) (hts (.fieldLink RX4 43 "PutBack$Reader" "length" "I") (by decide +kernel)) (fun _ h9 => h9) rfl dX4_take_35 ?_
  refine lv_iconst (v := 1) hx hb dX4_take_38 (by decide) ?_
  refine lv_iadd hx hb dX4_take_39 ?_
  refine lv_topi (fun z_18 ez_18 => ?_)
  obtain rfl : z_18 = (15 : Int32) := ez_18.trans (by decide)
  refine va_put (D := (dC, dI)) (ci := 4) (v := .int 15) (ty := .int) (C := RX4) (T := TX4) (N := 14) hx hb hts ik_take12_RX4 tyX4 tyX4_ok nmX4 hown hK hP hD hS 0 rfl rfl 2 (by decide) (hts (.fieldLink RX4 43 "PutBack$Reader" "length" "I") (by decide +kernel)) (fun _ h9 => h9) rfl (by decide +kernel) rfl rfl (Nat.le_of_ble_eq_true rfl) dX4_take_40 (fun H locs hP hD hS => ?_)
  have hP : va_P (dC, dI) cls [(rd, .inr (4, [.ref lenses_, .int 0, .int 15, .int 0, .int (-1), .int (-1), .ref tp, .ref names_, .ref quoted_, .ref links_, .ref walker2_, .int 0, .int 0, .int 0])), (tp, .inl (cI, 600, .inl g_17))] H := hP
  have hD : va_D A [(rd, .inr (4, [.ref lenses_, .int 0, .int 15, .int 0, .int (-1), .int (-1), .ref tp, .ref names_, .ref quoted_, .ref links_, .ref walker2_, .int 0, .int 0, .int 0])), (tp, .inl (cI, 600, .inl g_17))] := hD
  refine lv_iinc (v := 0) (lv' := [(2, .int 0), (0, .ref rd), (1, .int v1)]) hx hb dX4_take_43 hl (k := 0) rfl (by decide) (by decide) rfl (fun ls hl => ?_)
  refine lv_goto (tgt := 3) hx hb dX4_take_46 (by decide) ?_
  refine lv_iload_n hx hb dX4_take_3 rfl (lv_at hl 0 rfl) ?_
  refine lv_if_lt (tgt := 49) hx hb dX4_take_4 (by decide) (fun c_19 => ?_) (fun c_19 => ?_)
  · exact (by revert c_19; decide : False).elim
  refine lv_aload_n hx hb dX4_take_7 rfl (lv_at hl 1 rfl) ?_
  refine va_get (D := (dC, dI)) (ci := 4) (v := .int 15) (C := RX4) (T := TX4) (N := 14) hx hb hts ik_take12_RX4 hown hK hP 0 rfl rfl 2 (by decide) (hts (.fieldLink RX4 43 "PutBack$Reader" "length" "I") (by decide +kernel)) (fun _ h9 => h9) rfl dX4_take_8 ?_
  refine lv_sipush (v := 600) hx hb dX4_take_11 (by decide) ?_
  refine lv_icmp_ge (tgt := 49) hx hb dX4_take_14 (by decide) (fun c_20 => ?_) (fun c_20 => ?_)
  · exact (by revert c_20; decide : False).elim
  refine lv_aload_n hx hb dX4_take_17 rfl (lv_at hl 1 rfl) ?_
  refine va_get (D := (dC, dI)) (ci := 4) (v := .ref tp) (C := RX4) (T := TX4) (N := 14) hx hb hts ik_take12_RX4 hown hK hP 0 rfl rfl 6 (by decide) (hts (.fieldLink RX4 24 "PutBack$Reader" "tape" "[I") (by decide +kernel)) (fun _ h9 => h9) rfl dX4_take_18 ?_
  refine lv_aload_n hx hb dX4_take_21 rfl (lv_at hl 1 rfl) ?_
  refine va_get (D := (dC, dI)) (ci := 4) (v := .int 15) (C := RX4) (T := TX4) (N := 14) hx hb hts ik_take12_RX4 hown hK hP 0 rfl rfl 2 (by decide) (hts (.fieldLink RX4 43 "PutBack$Reader" "length" "I") (by decide +kernel)) (fun _ h9 => h9) rfl dX4_take_22 ?_
  refine lv_iload_n hx hb dX4_take_25 rfl (lv_at hl 2 rfl) ?_
  refine lv_iload_n hx hb dX4_take_26 rfl (lv_at hl 0 rfl) ?_
  refine lv_iushr hx hb dX4_take_27 rfl ?_
  refine lv_topi (fun z_21 ez_21 => ?_)
  refine lv_sipush (v := 255) hx hb dX4_take_28 (by decide) ?_
  refine lv_iand hx hb dX4_take_31 ?_
  refine lv_topi (fun z_22 ez_22 => ?_)
  refine va_iast hx hb hK hP hD hS 1 0 rfl rfl (by unfold vp_in; decide) dX4_take_32 (fun H locs hP hD hS => ?_)
  have hP : va_P (dC, dI) cls [(rd, .inr (4, [.ref lenses_, .int 0, .int 15, .int 0, .int (-1), .int (-1), .ref tp, .ref names_, .ref quoted_, .ref links_, .ref walker2_, .int 0, .int 0, .int 0])), (tp, .inl (cI, 600, .inl (upd g_17 (15 : Int32).toNatClampNeg z_22)))] H := hP
  have hD : va_D A [(rd, .inr (4, [.ref lenses_, .int 0, .int 15, .int 0, .int (-1), .int (-1), .ref tp, .ref names_, .ref quoted_, .ref links_, .ref walker2_, .int 0, .int 0, .int 0])), (tp, .inl (cI, 600, .inl (upd g_17 (15 : Int32).toNatClampNeg z_22)))] := hD
  generalize (upd g_17 (15 : Int32).toNatClampNeg z_22) = g_23 at hP hD
  refine lv_aload_n hx hb dX4_take_33 rfl (lv_at hl 1 rfl) ?_
  refine lv_dup hx hb dX4_take_34 rfl ?_
  refine va_get (D := (dC, dI)) (ci := 4) (v := .int 15) (C := RX4) (T := TX4) (N := 14) hx hb hts ik_take12_RX4 hown hK hP 0 rfl rfl 2 (by decide) (hts (.fieldLink RX4 43 "PutBack$Reader" "length" "I") (by decide +kernel)) (fun _ h9 => h9) rfl dX4_take_35 ?_
  refine lv_iconst (v := 1) hx hb dX4_take_38 (by decide) ?_
  refine lv_iadd hx hb dX4_take_39 ?_
  refine lv_topi (fun z_24 ez_24 => ?_)
  obtain rfl : z_24 = (16 : Int32) := ez_24.trans (by decide)
  refine va_put (D := (dC, dI)) (ci := 4) (v := .int 16) (ty := .int) (C := RX4) (T := TX4) (N := 14) hx hb hts ik_take12_RX4 tyX4 tyX4_ok nmX4 hown hK hP hD hS 0 rfl rfl 2 (by decide) (hts (.fieldLink RX4 43 "PutBack$Reader" "length" "I") (by decide +kernel)) (fun _ h9 => h9) rfl (by decide +kernel) rfl rfl (Nat.le_of_ble_eq_true rfl) dX4_take_40 (fun H locs hP hD hS => ?_)
  have hP : va_P (dC, dI) cls [(rd, .inr (4, [.ref lenses_, .int 0, .int 16, .int 0, .int (-1), .int (-1), .ref tp, .ref names_, .ref quoted_, .ref links_, .ref walker2_, .int 0, .int 0, .int 0])), (tp, .inl (cI, 600, .inl g_23))] H := hP
  have hD : va_D A [(rd, .inr (4, [.ref lenses_, .int 0, .int 16, .int 0, .int (-1), .int (-1), .ref tp, .ref names_, .ref quoted_, .ref links_, .ref walker2_, .int 0, .int 0, .int 0])), (tp, .inl (cI, 600, .inl g_23))] := hD
  refine lv_iinc (v := (-8)) (lv' := [(2, .int (-8)), (0, .ref rd), (1, .int v1)]) hx hb dX4_take_43 hl (k := 0) rfl (by decide) (by decide) rfl (fun ls hl => ?_)
  refine lv_goto (tgt := 3) hx hb dX4_take_46 (by decide) ?_
  refine lv_iload_n hx hb dX4_take_3 rfl (lv_at hl 0 rfl) ?_
  refine lv_if_lt (tgt := 49) hx hb dX4_take_4 (by decide) (fun c_25 => ?_) (fun c_25 => ?_)
  rotate_left
  · exact (by revert c_25; decide : False).elim
  have hK9 := hK.sub (tys' := [(cI, .int)]) [0] rfl
  have hP9 := hP.sub (ws' := [(rd, .inr (4, [.ref lenses_, .int 0, .int 16, .int 0, .int (-1), .int (-1), .ref tp, .ref names_, .ref quoted_, .ref links_, .ref walker2_, .int 0, .int 0, .int 0])), (tp, .inl (cI, 600, .inl g_23))]) [0, 1] rfl
  have hD9 := hD.sub (ws' := [(rd, .inr (4, [.ref lenses_, .int 0, .int 16, .int 0, .int (-1), .int (-1), .ref tp, .ref names_, .ref quoted_, .ref links_, .ref walker2_, .int 0, .int 0, .int 0])), (tp, .inl (cI, 600, .inl g_23))]) [0, 1] (by decide) rfl
  exact W.vret hx hb hr (fun t ht hW => ⟨⟨(), rfl, trivial, g_23, by rw [ht]; exact hP9, va_K.moved hW.alike hK9, hD9⟩, hS.F ht⟩) hS.2.2 dX4_take_49
def wk_take16 : List Cond := .code yX4_take cX4_take 3 none :: ([.fieldLink RX4 43 "PutBack$Reader" "length" "I", .fieldLink RX4 24 "PutBack$Reader" "tape" "[I"] ++ wsX40)
theorem ik_take16_RX4 : ∀ w ∈ u_ws RX4 TX4 14, w ∈ wk_take16 := fun w h => List.mem_cons_of_mem _ (List.mem_append_right _ h)
set_option maxHeartbeats 4000000 in
set_option maxRecDepth 100000 in
theorem k_take16 (l : Launch) (dC : Nat → ClassId) (dI : Nat → Nat → Nat) (sz : Nat) (rd : Nat) (v1 : Int32) (lenses_ : Nat) (tp : Nat) (names_ : Nat) (quoted_ : Nat) (links_ : Nat) (walker2_ : Nat) (cI : ClassId) (fA : Nat → Int32) : Met l yX4_take wk_take16 ({ frames := 0, cells := 0, slots := 0, locals := 0 } : Room) (va_Pc [.ref rd, .int v1] (fun U => U.heap.size = sz ∧ va_P (dC, dI) cls [(rd, .inr (4, [.ref lenses_, .int 0, .int 16, .int 0, .int (-1), .int (-1), .ref tp, .ref names_, .ref quoted_, .ref links_, .ref walker2_, .int 0, .int 0, .int 0])), (tp, .inl (cI, 600, .inl fA))] U.heap ∧ va_K (dC, dI) cls [(cI, .int)] U ∧ va_D (fun _ => True) [(rd, .inr (4, [.ref lenses_, .int 0, .int 16, .int 0, .int (-1), .int (-1), .ref tp, .ref names_, .ref quoted_, .ref links_, .ref walker2_, .int 0, .int 0, .int 0])), (tp, .inl (cI, 600, .inl fA))])) (va_Qv (fun _ : Unit => True) (fun (_ : Unit) t => ∃ gT : Nat → Int32, va_P (dC, dI) cls [(rd, .inr (4, [.ref lenses_, .int 0, .int 20, .int 0, .int (-1), .int (-1), .ref tp, .ref names_, .ref quoted_, .ref links_, .ref walker2_, .int 0, .int 0, .int 0])), (tp, .inl (cI, 600, .inl gT))] t.heap ∧ va_K (dC, dI) cls [(cI, .int)] t ∧ va_D (va_A [(rd, .inr (4, [.ref lenses_, .int 0, .int 16, .int 0, .int (-1), .int (-1), .ref tp, .ref names_, .ref quoted_, .ref links_, .ref walker2_, .int 0, .int 0, .int 0])), (tp, .inl (cI, 600, .inl fA))] sz) [(rd, .inr (4, [.ref lenses_, .int 0, .int 20, .int 0, .int (-1), .int (-1), .ref tp, .ref names_, .ref quoted_, .ref links_, .ref walker2_, .int 0, .int 0, .int 0])), (tp, .inl (cI, 600, .inl gT))]) (va_A [(rd, .inr (4, [.ref lenses_, .int 0, .int 16, .int 0, .int (-1), .int (-1), .ref tp, .ref names_, .ref quoted_, .ref links_, .ref walker2_, .int 0, .int 0, .int 0])), (tp, .inl (cI, 600, .inl fA))] sz)) 0 0 (va_A [(rd, .inr (4, [.ref lenses_, .int 0, .int 16, .int 0, .int (-1), .int (-1), .ref tp, .ref names_, .ref quoted_, .ref links_, .ref walker2_, .int 0, .int 0, .int 0])), (tp, .inl (cI, 600, .inl fA))] sz) := by
  refine Met.ofW (cc := cX4_take) (maxL := 3) (ret := none) (by decide) rfl ?_
  intro p e s m args below meth c s₁ B hml hv
  obtain ⟨rfl, hsz, hP, hK, hD0⟩ := hv
  have hx := B.exec
  have hb := B.bytes
  have hr := B.returns
  have hts := atoms_spec (ws := wk_take16) B.pre
  have hown : s.vm.findClass RX4 = some m.cls := findClass_of_methodNamed B.named
  have hlocks := B.notSynchronized
  subst hsz
  have hD := hD0.self (sz := s.heap.size)
  generalize hAe : va_A [(rd, .inr (4, [.ref lenses_, .int 0, .int 16, .int 0, .int (-1), .int (-1), .ref tp, .ref names_, .ref quoted_, .ref links_, .ref walker2_, .int 0, .int 0, .int 0])), (tp, .inl (cI, 600, .inl fA))] s.heap.size = A at hD ⊢
  have hA : ∀ q : Nat, s.heap.size ≤ q → A q := fun q h => by rw [← hAe]; exact Or.inr h
  have hP : va_P (dC, dI) cls [(rd, .inr (4, [.ref lenses_, .int 0, .int 16, .int 0, .int (-1), .int (-1), .ref tp, .ref names_, .ref quoted_, .ref links_, .ref walker2_, .int 0, .int 0, .int 0])), (tp, .inl (cI, 600, .inl fA))] s.heap := hP
  have hl := lv_entry ([.ref rd, .int v1]) (n := 3) (Nat.le_of_ble_eq_true rfl)
  rw [lg_entry_eq]
  generalize (lg_sl ([.ref rd, .int v1]) ++ List.replicate (3 - (lg_sl ([.ref rd, .int v1])).length) Slot.unset).toArray = ls at hl ⊢
  have hl : lv_has ls 3 [(0, .ref rd), (1, .int v1)] := hl
  obtain ⟨H, hH⟩ : ∃ H : Heap, s.heap = H := ⟨_, rfl⟩
  rw [hH] at hP ⊢
  have hS : va_S A s.heap H [] := by rw [← hH]; exact va_S.rf
  refine lv_bipush (v := 24) hx hb dX4_take_0 (by decide) ?_
  refine lv_istore_n (lv' := [(2, .int 24), (0, .ref rd), (1, .int v1)]) hx hb dX4_take_2 rfl hl (by decide) rfl (fun ls hl => ?_)
  refine lv_iload_n hx hb dX4_take_3 rfl (lv_at hl 0 rfl) ?_
  refine lv_if_lt (tgt := 49) hx hb dX4_take_4 (by decide) (fun c_1 => ?_) (fun c_1 => ?_)
  · exact (by revert c_1; decide : False).elim
  refine lv_aload_n hx hb dX4_take_7 rfl (lv_at hl 1 rfl) ?_
  refine va_get (D := (dC, dI)) (ci := 4) (v := .int 16) (C := RX4) (T := TX4) (N := 14) hx hb hts ik_take16_RX4 hown hK hP 0 rfl rfl 2 (by decide) (hts (.fieldLink RX4 43 "PutBack$Reader" "length" "I") (by decide +kernel)) (fun _ h9 => h9) rfl dX4_take_8 ?_
  refine lv_sipush (v := 600) hx hb dX4_take_11 (by decide) ?_
  refine lv_icmp_ge (tgt := 49) hx hb dX4_take_14 (by decide) (fun c_2 => ?_) (fun c_2 => ?_)
  · exact (by revert c_2; decide : False).elim
  refine lv_aload_n hx hb dX4_take_17 rfl (lv_at hl 1 rfl) ?_
  refine va_get (D := (dC, dI)) (ci := 4) (v := .ref tp) (C := RX4) (T := TX4) (N := 14) hx hb hts ik_take16_RX4 hown hK hP 0 rfl rfl 6 (by decide) (hts (.fieldLink RX4 24 "PutBack$Reader" "tape" "[I") (by decide +kernel)) (fun _ h9 => h9) rfl dX4_take_18 ?_
  refine lv_aload_n hx hb dX4_take_21 rfl (lv_at hl 1 rfl) ?_
  refine va_get (D := (dC, dI)) (ci := 4) (v := .int 16) (C := RX4) (T := TX4) (N := 14) hx hb hts ik_take16_RX4 hown hK hP 0 rfl rfl 2 (by decide) (hts (.fieldLink RX4 43 "PutBack$Reader" "length" "I") (by decide +kernel)) (fun _ h9 => h9) rfl dX4_take_22 ?_
  refine lv_iload_n hx hb dX4_take_25 rfl (lv_at hl 2 rfl) ?_
  refine lv_iload_n hx hb dX4_take_26 rfl (lv_at hl 0 rfl) ?_
  refine lv_iushr hx hb dX4_take_27 rfl ?_
  refine lv_topi (fun z_3 ez_3 => ?_)
  refine lv_sipush (v := 255) hx hb dX4_take_28 (by decide) ?_
  refine lv_iand hx hb dX4_take_31 ?_
  refine lv_topi (fun z_4 ez_4 => ?_)
  refine va_iast hx hb hK hP hD hS 1 0 rfl rfl (by unfold vp_in; decide) dX4_take_32 (fun H locs hP hD hS => ?_)
  have hP : va_P (dC, dI) cls [(rd, .inr (4, [.ref lenses_, .int 0, .int 16, .int 0, .int (-1), .int (-1), .ref tp, .ref names_, .ref quoted_, .ref links_, .ref walker2_, .int 0, .int 0, .int 0])), (tp, .inl (cI, 600, .inl (upd fA (16 : Int32).toNatClampNeg z_4)))] H := hP
  have hD : va_D A [(rd, .inr (4, [.ref lenses_, .int 0, .int 16, .int 0, .int (-1), .int (-1), .ref tp, .ref names_, .ref quoted_, .ref links_, .ref walker2_, .int 0, .int 0, .int 0])), (tp, .inl (cI, 600, .inl (upd fA (16 : Int32).toNatClampNeg z_4)))] := hD
  generalize (upd fA (16 : Int32).toNatClampNeg z_4) = g_5 at hP hD
  refine lv_aload_n hx hb dX4_take_33 rfl (lv_at hl 1 rfl) ?_
  refine lv_dup hx hb dX4_take_34 rfl ?_
  refine va_get (D := (dC, dI)) (ci := 4) (v := .int 16) (C := RX4) (T := TX4) (N := 14) hx hb hts ik_take16_RX4 hown hK hP 0 rfl rfl 2 (by decide) (hts (.fieldLink RX4 43 "PutBack$Reader" "length" "I") (by decide +kernel)) (fun _ h9 => h9) rfl dX4_take_35 ?_
  refine lv_iconst (v := 1) hx hb dX4_take_38 (by decide) ?_
  refine lv_iadd hx hb dX4_take_39 ?_
  refine lv_topi (fun z_6 ez_6 => ?_)
  obtain rfl : z_6 = (17 : Int32) := ez_6.trans (by decide)
  refine va_put (D := (dC, dI)) (ci := 4) (v := .int 17) (ty := .int) (C := RX4) (T := TX4) (N := 14) hx hb hts ik_take16_RX4 tyX4 tyX4_ok nmX4 hown hK hP hD hS 0 rfl rfl 2 (by decide) (hts (.fieldLink RX4 43 "PutBack$Reader" "length" "I") (by decide +kernel)) (fun _ h9 => h9) rfl (by decide +kernel) rfl rfl (Nat.le_of_ble_eq_true rfl) dX4_take_40 (fun H locs hP hD hS => ?_)
  have hP : va_P (dC, dI) cls [(rd, .inr (4, [.ref lenses_, .int 0, .int 17, .int 0, .int (-1), .int (-1), .ref tp, .ref names_, .ref quoted_, .ref links_, .ref walker2_, .int 0, .int 0, .int 0])), (tp, .inl (cI, 600, .inl g_5))] H := hP
  have hD : va_D A [(rd, .inr (4, [.ref lenses_, .int 0, .int 17, .int 0, .int (-1), .int (-1), .ref tp, .ref names_, .ref quoted_, .ref links_, .ref walker2_, .int 0, .int 0, .int 0])), (tp, .inl (cI, 600, .inl g_5))] := hD
  refine lv_iinc (v := 16) (lv' := [(2, .int 16), (0, .ref rd), (1, .int v1)]) hx hb dX4_take_43 hl (k := 0) rfl (by decide) (by decide) rfl (fun ls hl => ?_)
  refine lv_goto (tgt := 3) hx hb dX4_take_46 (by decide) ?_
  refine lv_iload_n hx hb dX4_take_3 rfl (lv_at hl 0 rfl) ?_
  refine lv_if_lt (tgt := 49) hx hb dX4_take_4 (by decide) (fun c_7 => ?_) (fun c_7 => ?_)
  · exact (by revert c_7; decide : False).elim
  refine lv_aload_n hx hb dX4_take_7 rfl (lv_at hl 1 rfl) ?_
  refine va_get (D := (dC, dI)) (ci := 4) (v := .int 17) (C := RX4) (T := TX4) (N := 14) hx hb hts ik_take16_RX4 hown hK hP 0 rfl rfl 2 (by decide) (hts (.fieldLink RX4 43 "PutBack$Reader" "length" "I") (by decide +kernel)) (fun _ h9 => h9) rfl dX4_take_8 ?_
  refine lv_sipush (v := 600) hx hb dX4_take_11 (by decide) ?_
  refine lv_icmp_ge (tgt := 49) hx hb dX4_take_14 (by decide) (fun c_8 => ?_) (fun c_8 => ?_)
  · exact (by revert c_8; decide : False).elim
  refine lv_aload_n hx hb dX4_take_17 rfl (lv_at hl 1 rfl) ?_
  refine va_get (D := (dC, dI)) (ci := 4) (v := .ref tp) (C := RX4) (T := TX4) (N := 14) hx hb hts ik_take16_RX4 hown hK hP 0 rfl rfl 6 (by decide) (hts (.fieldLink RX4 24 "PutBack$Reader" "tape" "[I") (by decide +kernel)) (fun _ h9 => h9) rfl dX4_take_18 ?_
  refine lv_aload_n hx hb dX4_take_21 rfl (lv_at hl 1 rfl) ?_
  refine va_get (D := (dC, dI)) (ci := 4) (v := .int 17) (C := RX4) (T := TX4) (N := 14) hx hb hts ik_take16_RX4 hown hK hP 0 rfl rfl 2 (by decide) (hts (.fieldLink RX4 43 "PutBack$Reader" "length" "I") (by decide +kernel)) (fun _ h9 => h9) rfl dX4_take_22 ?_
  refine lv_iload_n hx hb dX4_take_25 rfl (lv_at hl 2 rfl) ?_
  refine lv_iload_n hx hb dX4_take_26 rfl (lv_at hl 0 rfl) ?_
  refine lv_iushr hx hb dX4_take_27 rfl ?_
  refine lv_topi (fun z_9 ez_9 => ?_)
  refine lv_sipush (v := 255) hx hb dX4_take_28 (by decide) ?_
  refine lv_iand hx hb dX4_take_31 ?_
  refine lv_topi (fun z_10 ez_10 => ?_)
  refine va_iast hx hb hK hP hD hS 1 0 rfl rfl (by unfold vp_in; decide) dX4_take_32 (fun H locs hP hD hS => ?_)
  have hP : va_P (dC, dI) cls [(rd, .inr (4, [.ref lenses_, .int 0, .int 17, .int 0, .int (-1), .int (-1), .ref tp, .ref names_, .ref quoted_, .ref links_, .ref walker2_, .int 0, .int 0, .int 0])), (tp, .inl (cI, 600, .inl (upd g_5 (17 : Int32).toNatClampNeg z_10)))] H := hP
  have hD : va_D A [(rd, .inr (4, [.ref lenses_, .int 0, .int 17, .int 0, .int (-1), .int (-1), .ref tp, .ref names_, .ref quoted_, .ref links_, .ref walker2_, .int 0, .int 0, .int 0])), (tp, .inl (cI, 600, .inl (upd g_5 (17 : Int32).toNatClampNeg z_10)))] := hD
  generalize (upd g_5 (17 : Int32).toNatClampNeg z_10) = g_11 at hP hD
  refine lv_aload_n hx hb dX4_take_33 rfl (lv_at hl 1 rfl) ?_
  refine lv_dup hx hb dX4_take_34 rfl ?_
  refine va_get (D := (dC, dI)) (ci := 4) (v := .int 17) (C := RX4) (T := TX4) (N := 14) hx hb hts ik_take16_RX4 hown hK hP 0 rfl rfl 2 (by decide) (hts (.fieldLink RX4 43 "PutBack$Reader" "length" "I") (by decide +kernel)) (fun _ h9 => h9) rfl dX4_take_35 ?_
  refine lv_iconst (v := 1) hx hb dX4_take_38 (by decide) ?_
  refine lv_iadd hx hb dX4_take_39 ?_
  refine lv_topi (fun z_12 ez_12 => ?_)
  obtain rfl : z_12 = (18 : Int32) := ez_12.trans (by decide)
  refine va_put (D := (dC, dI)) (ci := 4) (v := .int 18) (ty := .int) (C := RX4) (T := TX4) (N := 14) hx hb hts ik_take16_RX4 tyX4 tyX4_ok nmX4 hown hK hP hD hS 0 rfl rfl 2 (by decide) (hts (.fieldLink RX4 43 "PutBack$Reader" "length" "I") (by decide +kernel)) (fun _ h9 => h9) rfl (by decide +kernel) rfl rfl (Nat.le_of_ble_eq_true rfl) dX4_take_40 (fun H locs hP hD hS => ?_)
  have hP : va_P (dC, dI) cls [(rd, .inr (4, [.ref lenses_, .int 0, .int 18, .int 0, .int (-1), .int (-1), .ref tp, .ref names_, .ref quoted_, .ref links_, .ref walker2_, .int 0, .int 0, .int 0])), (tp, .inl (cI, 600, .inl g_11))] H := hP
  have hD : va_D A [(rd, .inr (4, [.ref lenses_, .int 0, .int 18, .int 0, .int (-1), .int (-1), .ref tp, .ref names_, .ref quoted_, .ref links_, .ref walker2_, .int 0, .int 0, .int 0])), (tp, .inl (cI, 600, .inl g_11))] := hD
  refine lv_iinc (v := 8) (lv' := [(2, .int 8), (0, .ref rd), (1, .int v1)]) hx hb dX4_take_43 hl (k := 0) rfl (by decide) (by decide) rfl (fun ls hl => ?_)
  refine lv_goto (tgt := 3) hx hb dX4_take_46 (by decide) ?_
  refine lv_iload_n hx hb dX4_take_3 rfl (lv_at hl 0 rfl) ?_
  refine lv_if_lt (tgt := 49) hx hb dX4_take_4 (by decide) (fun c_13 => ?_) (fun c_13 => ?_)
  · exact (by revert c_13; decide : False).elim
  refine lv_aload_n hx hb dX4_take_7 rfl (lv_at hl 1 rfl) ?_
  refine va_get (D := (dC, dI)) (ci := 4) (v := .int 18) (C := RX4) (T := TX4) (N := 14) hx hb hts ik_take16_RX4 hown hK hP 0 rfl rfl 2 (by decide) (hts (.fieldLink RX4 43 "PutBack$Reader" "length" "I") (by decide +kernel)) (fun _ h9 => h9) rfl dX4_take_8 ?_
  refine lv_sipush (v := 600) hx hb dX4_take_11 (by decide) ?_
  refine lv_icmp_ge (tgt := 49) hx hb dX4_take_14 (by decide) (fun c_14 => ?_) (fun c_14 => ?_)
  · exact (by revert c_14; decide : False).elim
  refine lv_aload_n hx hb dX4_take_17 rfl (lv_at hl 1 rfl) ?_
  refine va_get (D := (dC, dI)) (ci := 4) (v := .ref tp) (C := RX4) (T := TX4) (N := 14) hx hb hts ik_take16_RX4 hown hK hP 0 rfl rfl 6 (by decide) (hts (.fieldLink RX4 24 "PutBack$Reader" "tape" "[I") (by decide +kernel)) (fun _ h9 => h9) rfl dX4_take_18 ?_
  refine lv_aload_n hx hb dX4_take_21 rfl (lv_at hl 1 rfl) ?_
  refine va_get (D := (dC, dI)) (ci := 4) (v := .int 18) (C := RX4) (T := TX4) (N := 14) hx hb hts ik_take16_RX4 hown hK hP 0 rfl rfl 2 (by decide) (hts (.fieldLink RX4 43 "PutBack$Reader" "length" "I") (by decide +kernel)) (fun _ h9 => h9) rfl dX4_take_22 ?_
  refine lv_iload_n hx hb dX4_take_25 rfl (lv_at hl 2 rfl) ?_
  refine lv_iload_n hx hb dX4_take_26 rfl (lv_at hl 0 rfl) ?_
  refine lv_iushr hx hb dX4_take_27 rfl ?_
  refine lv_topi (fun z_15 ez_15 => ?_)
  refine lv_sipush (v := 255) hx hb dX4_take_28 (by decide) ?_
  refine lv_iand hx hb dX4_take_31 ?_
  refine lv_topi (fun z_16 ez_16 => ?_)
  refine va_iast hx hb hK hP hD hS 1 0 rfl rfl (by unfold vp_in; decide) dX4_take_32 (fun H locs hP hD hS => ?_)
  have hP : va_P (dC, dI) cls [(rd, .inr (4, [.ref lenses_, .int 0, .int 18, .int 0, .int (-1), .int (-1), .ref tp, .ref names_, .ref quoted_, .ref links_, .ref walker2_, .int 0, .int 0, .int 0])), (tp, .inl (cI, 600, .inl (upd g_11 (18 : Int32).toNatClampNeg z_16)))] H := hP
  have hD : va_D A [(rd, .inr (4, [.ref lenses_, .int 0, .int 18, .int 0, .int (-1), .int (-1), .ref tp, .ref names_, .ref quoted_, .ref links_, .ref walker2_, .int 0, .int 0, .int 0])), (tp, .inl (cI, 600, .inl (upd g_11 (18 : Int32).toNatClampNeg z_16)))] := hD
  generalize (upd g_11 (18 : Int32).toNatClampNeg z_16) = g_17 at hP hD
  refine lv_aload_n hx hb dX4_take_33 rfl (lv_at hl 1 rfl) ?_
  refine lv_dup hx hb dX4_take_34 rfl ?_
  refine va_get (D := (dC, dI)) (ci := 4) (v := .int 18) (C := RX4) (T := TX4) (N := 14) hx hb hts ik_take16_RX4 hown hK hP 0 rfl rfl 2 (by decide) (hts (.fieldLink RX4 43 "PutBack$Reader" "length" "I") (by decide +kernel)) (fun _ h9 => h9) rfl dX4_take_35 ?_
  refine lv_iconst (v := 1) hx hb dX4_take_38 (by decide) ?_
  refine lv_iadd hx hb dX4_take_39 ?_
  refine lv_topi (fun z_18 ez_18 => ?_)
  obtain rfl : z_18 = (19 : Int32) := ez_18.trans (by decide)
  refine va_put (D := (dC, dI)) (ci := 4) (v := .int 19) (ty := .int) (C := RX4) (T := TX4) (N := 14) hx hb hts ik_take16_RX4 tyX4 tyX4_ok nmX4 hown hK hP hD hS 0 rfl rfl 2 (by decide) (hts (.fieldLink RX4 43 "PutBack$Reader" "length" "I") (by decide +kernel)) (fun _ h9 => h9) rfl (by decide +kernel) rfl rfl (Nat.le_of_ble_eq_true rfl) dX4_take_40 (fun H locs hP hD hS => ?_)
  have hP : va_P (dC, dI) cls [(rd, .inr (4, [.ref lenses_, .int 0, .int 19, .int 0, .int (-1), .int (-1), .ref tp, .ref names_, .ref quoted_, .ref links_, .ref walker2_, .int 0, .int 0, .int 0])), (tp, .inl (cI, 600, .inl g_17))] H := hP
  have hD : va_D A [(rd, .inr (4, [.ref lenses_, .int 0, .int 19, .int 0, .int (-1), .int (-1), .ref tp, .ref names_, .ref quoted_, .ref links_, .ref walker2_, .int 0, .int 0, .int 0])), (tp, .inl (cI, 600, .inl g_17))] := hD
  refine lv_iinc (v := 0) (lv' := [(2, .int 0), (0, .ref rd), (1, .int v1)]) hx hb dX4_take_43 hl (k := 0) rfl (by decide) (by decide) rfl (fun ls hl => ?_)
  refine lv_goto (tgt := 3) hx hb dX4_take_46 (by decide) ?_
  refine lv_iload_n hx hb dX4_take_3 rfl (lv_at hl 0 rfl) ?_
  refine lv_if_lt (tgt := 49) hx hb dX4_take_4 (by decide) (fun c_19 => ?_) (fun c_19 => ?_)
  · exact (by revert c_19; decide : False).elim
  refine lv_aload_n hx hb dX4_take_7 rfl (lv_at hl 1 rfl) ?_
  refine va_get (D := (dC, dI)) (ci := 4) (v := .int 19) (C := RX4) (T := TX4) (N := 14) hx hb hts ik_take16_RX4 hown hK hP 0 rfl rfl 2 (by decide) (hts (.fieldLink RX4 43 "PutBack$Reader" "length" "I") (by decide +kernel)) (fun _ h9 => h9) rfl dX4_take_8 ?_
  refine lv_sipush (v := 600) hx hb dX4_take_11 (by decide) ?_
  refine lv_icmp_ge (tgt := 49) hx hb dX4_take_14 (by decide) (fun c_20 => ?_) (fun c_20 => ?_)
  · exact (by revert c_20; decide : False).elim
  refine lv_aload_n hx hb dX4_take_17 rfl (lv_at hl 1 rfl) ?_
  refine va_get (D := (dC, dI)) (ci := 4) (v := .ref tp) (C := RX4) (T := TX4) (N := 14) hx hb hts ik_take16_RX4 hown hK hP 0 rfl rfl 6 (by decide) (hts (.fieldLink RX4 24 "PutBack$Reader" "tape" "[I") (by decide +kernel)) (fun _ h9 => h9) rfl dX4_take_18 ?_
  refine lv_aload_n hx hb dX4_take_21 rfl (lv_at hl 1 rfl) ?_
  refine va_get (D := (dC, dI)) (ci := 4) (v := .int 19) (C := RX4) (T := TX4) (N := 14) hx hb hts ik_take16_RX4 hown hK hP 0 rfl rfl 2 (by decide) (hts (.fieldLink RX4 43 "PutBack$Reader" "length" "I") (by decide +kernel)) (fun _ h9 => h9) rfl dX4_take_22 ?_
  refine lv_iload_n hx hb dX4_take_25 rfl (lv_at hl 2 rfl) ?_
  refine lv_iload_n hx hb dX4_take_26 rfl (lv_at hl 0 rfl) ?_
  refine lv_iushr hx hb dX4_take_27 rfl ?_
  refine lv_topi (fun z_21 ez_21 => ?_)
  refine lv_sipush (v := 255) hx hb dX4_take_28 (by decide) ?_
  refine lv_iand hx hb dX4_take_31 ?_
  refine lv_topi (fun z_22 ez_22 => ?_)
  refine va_iast hx hb hK hP hD hS 1 0 rfl rfl (by unfold vp_in; decide) dX4_take_32 (fun H locs hP hD hS => ?_)
  have hP : va_P (dC, dI) cls [(rd, .inr (4, [.ref lenses_, .int 0, .int 19, .int 0, .int (-1), .int (-1), .ref tp, .ref names_, .ref quoted_, .ref links_, .ref walker2_, .int 0, .int 0, .int 0])), (tp, .inl (cI, 600, .inl (upd g_17 (19 : Int32).toNatClampNeg z_22)))] H := hP
  have hD : va_D A [(rd, .inr (4, [.ref lenses_, .int 0, .int 19, .int 0, .int (-1), .int (-1), .ref tp, .ref names_, .ref quoted_, .ref links_, .ref walker2_, .int 0, .int 0, .int 0])), (tp, .inl (cI, 600, .inl (upd g_17 (19 : Int32).toNatClampNeg z_22)))] := hD
  generalize (upd g_17 (19 : Int32).toNatClampNeg z_22) = g_23 at hP hD
  refine lv_aload_n hx hb dX4_take_33 rfl (lv_at hl 1 rfl) ?_
  refine lv_dup hx hb dX4_take_34 rfl ?_
  refine va_get (D := (dC, dI)) (ci := 4) (v := .int 19) (C := RX4) (T := TX4) (N := 14) hx hb hts ik_take16_RX4 hown hK hP 0 rfl rfl 2 (by decide) (hts (.fieldLink RX4 43 "PutBack$Reader" "length" "I") (by decide +kernel)) (fun _ h9 => h9) rfl dX4_take_35 ?_
  refine lv_iconst (v := 1) hx hb dX4_take_38 (by decide) ?_
  refine lv_iadd hx hb dX4_take_39 ?_
  refine lv_topi (fun z_24 ez_24 => ?_)
  obtain rfl : z_24 = (20 : Int32) := ez_24.trans (by decide)
  refine va_put (D := (dC, dI)) (ci := 4) (v := .int 20) (ty := .int) (C := RX4) (T := TX4) (N := 14) hx hb hts ik_take16_RX4 tyX4 tyX4_ok nmX4 hown hK hP hD hS 0 rfl rfl 2 (by decide) (hts (.fieldLink RX4 43 "PutBack$Reader" "length" "I") (by decide +kernel)) (fun _ h9 => h9) rfl (by decide +kernel) rfl rfl (Nat.le_of_ble_eq_true rfl) dX4_take_40 (fun H locs hP hD hS => ?_)
  have hP : va_P (dC, dI) cls [(rd, .inr (4, [.ref lenses_, .int 0, .int 20, .int 0, .int (-1), .int (-1), .ref tp, .ref names_, .ref quoted_, .ref links_, .ref walker2_, .int 0, .int 0, .int 0])), (tp, .inl (cI, 600, .inl g_23))] H := hP
  have hD : va_D A [(rd, .inr (4, [.ref lenses_, .int 0, .int 20, .int 0, .int (-1), .int (-1), .ref tp, .ref names_, .ref quoted_, .ref links_, .ref walker2_, .int 0, .int 0, .int 0])), (tp, .inl (cI, 600, .inl g_23))] := hD
  refine lv_iinc (v := (-8)) (lv' := [(2, .int (-8)), (0, .ref rd), (1, .int v1)]) hx hb dX4_take_43 hl (k := 0) rfl (by decide) (by decide) rfl (fun ls hl => ?_)
  refine lv_goto (tgt := 3) hx hb dX4_take_46 (by decide) ?_
  refine lv_iload_n hx hb dX4_take_3 rfl (lv_at hl 0 rfl) ?_
  refine lv_if_lt (tgt := 49) hx hb dX4_take_4 (by decide) (fun c_25 => ?_) (fun c_25 => ?_)
  rotate_left
  · exact (by revert c_25; decide : False).elim
  have hK9 := hK.sub (tys' := [(cI, .int)]) [0] rfl
  have hP9 := hP.sub (ws' := [(rd, .inr (4, [.ref lenses_, .int 0, .int 20, .int 0, .int (-1), .int (-1), .ref tp, .ref names_, .ref quoted_, .ref links_, .ref walker2_, .int 0, .int 0, .int 0])), (tp, .inl (cI, 600, .inl g_23))]) [0, 1] rfl
  have hD9 := hD.sub (ws' := [(rd, .inr (4, [.ref lenses_, .int 0, .int 20, .int 0, .int (-1), .int (-1), .ref tp, .ref names_, .ref quoted_, .ref links_, .ref walker2_, .int 0, .int 0, .int 0])), (tp, .inl (cI, 600, .inl g_23))]) [0, 1] (by decide) rfl
  exact W.vret hx hb hr (fun t ht hW => ⟨⟨(), rfl, trivial, g_23, by rw [ht]; exact hP9, va_K.moved hW.alike hK9, hD9⟩, hS.F ht⟩) hS.2.2 dX4_take_49
def wk_feed : List Cond := .code yX11_feed cX11_feed 6 (some .int) :: ([.fieldLink RX11 27 "PutBack" "reader" "LPutBack$Reader;", .fieldLink RX11 53 "PutBack$Reader" "length" "I", .methodLink RX11 57 yX4_take, .instanceMethod yX4_take, .selects RX4 yX4_take yX4_take, .initialized RX4, .code yX4_take cX4_take 3 none, .fieldLink RX4 43 "PutBack$Reader" "length" "I", .fieldLink RX4 24 "PutBack$Reader" "tape" "[I"] ++ wsX40 ++ wsX110)
theorem ik_feed_RX4 : ∀ w ∈ u_ws RX4 TX4 14, w ∈ wk_feed := fun w h => List.mem_cons_of_mem _ (List.mem_append_left _ (List.mem_append_right _ h))
theorem ik_feed_RX11 : ∀ w ∈ u_ws RX11 TX11 6, w ∈ wk_feed := fun w h => List.mem_cons_of_mem _ (List.mem_append_right _ h)
theorem gk_feed_57g : GoodIn wk_feed wk_take0 := goodIn_r _ [7, 8, 9, 10, 11, 12, 13, 14, 15, 16, 17, 18, 19, 20, 21, 22, 23] (by decide +kernel) (by decide +kernel)
theorem gk_feed_57 : GoodIn wk_feed (wsV RX11 57 RX4 yX4_take wk_take0) := goodIn_app (goodIn_of _ (by decide +kernel)) gk_feed_57g
set_option maxHeartbeats 4000000 in
set_option maxRecDepth 100000 in
theorem k_feed (l : Launch) (dC : Nat → ClassId) (dI : Nat → Nat → Nat) (sz : Nat) (h0 : Nat) (v1 : Int32) (v2 : Int32) (v3 : Int32) (v4 : Int32) (v5 : Int32) (sl : Nat) (walker_ : Nat) (rd : Nat) (machine_ : Nat) (trial_ : Nat) (dk : Nat) (lenses_ : Nat) (tp : Nat) (names_ : Nat) (quoted_ : Nat) (links_ : Nat) (walker2_ : Nat) (cI : ClassId) (fA : Nat → Int32) : Met l yX11_feed wk_feed ({ frames := 1, cells := 0, slots := 0, locals := 22 } : Room) (va_Pc [.ref h0, .int v1, .int v2, .int v3, .int v4, .int v5] (fun U => U.heap.size = sz ∧ va_P (dC, dI) cls [(h0, .inr (11, [.ref sl, .ref walker_, .ref rd, .ref machine_, .ref trial_, .ref dk])), (rd, .inr (4, [.ref lenses_, .int 0, .int 0, .int 0, .int (-1), .int (-1), .ref tp, .ref names_, .ref quoted_, .ref links_, .ref walker2_, .int 0, .int 0, .int 0])), (tp, .inl (cI, 600, .inl fA))] U.heap ∧ va_K (dC, dI) cls [(cI, .int)] U ∧ va_D (fun _ => True) [(h0, .inr (11, [.ref sl, .ref walker_, .ref rd, .ref machine_, .ref trial_, .ref dk])), (rd, .inr (4, [.ref lenses_, .int 0, .int 0, .int 0, .int (-1), .int (-1), .ref tp, .ref names_, .ref quoted_, .ref links_, .ref walker2_, .int 0, .int 0, .int 0])), (tp, .inl (cI, 600, .inl fA))])) (va_Qi (fun (r : Int32) (_ : Unit) => r = 20) (fun (_ : Unit) t => va_P (dC, dI) cls [] t.heap ∧ va_K (dC, dI) cls [(cI, .int)] t ∧ va_D (va_A [(h0, .inr (11, [.ref sl, .ref walker_, .ref rd, .ref machine_, .ref trial_, .ref dk])), (rd, .inr (4, [.ref lenses_, .int 0, .int 0, .int 0, .int (-1), .int (-1), .ref tp, .ref names_, .ref quoted_, .ref links_, .ref walker2_, .int 0, .int 0, .int 0])), (tp, .inl (cI, 600, .inl fA))] sz) []) (va_A [(h0, .inr (11, [.ref sl, .ref walker_, .ref rd, .ref machine_, .ref trial_, .ref dk])), (rd, .inr (4, [.ref lenses_, .int 0, .int 0, .int 0, .int (-1), .int (-1), .ref tp, .ref names_, .ref quoted_, .ref links_, .ref walker2_, .int 0, .int 0, .int 0])), (tp, .inl (cI, 600, .inl fA))] sz)) 0 0 (va_A [(h0, .inr (11, [.ref sl, .ref walker_, .ref rd, .ref machine_, .ref trial_, .ref dk])), (rd, .inr (4, [.ref lenses_, .int 0, .int 0, .int 0, .int (-1), .int (-1), .ref tp, .ref names_, .ref quoted_, .ref links_, .ref walker2_, .int 0, .int 0, .int 0])), (tp, .inl (cI, 600, .inl fA))] sz) := by
  refine Met.ofW (cc := cX11_feed) (maxL := 6) (ret := (some .int)) (by decide) rfl ?_
  intro p e s m args below meth c s₁ B hml hv
  obtain ⟨rfl, hsz, hP, hK, hD0⟩ := hv
  have hx := B.exec
  have hb := B.bytes
  have hr := B.returns
  have hts := atoms_spec (ws := wk_feed) B.pre
  have hown : s.vm.findClass RX11 = some m.cls := findClass_of_methodNamed B.named
  have hlocks := B.notSynchronized
  subst hsz
  have hD := hD0.self (sz := s.heap.size)
  generalize hAe : va_A [(h0, .inr (11, [.ref sl, .ref walker_, .ref rd, .ref machine_, .ref trial_, .ref dk])), (rd, .inr (4, [.ref lenses_, .int 0, .int 0, .int 0, .int (-1), .int (-1), .ref tp, .ref names_, .ref quoted_, .ref links_, .ref walker2_, .int 0, .int 0, .int 0])), (tp, .inl (cI, 600, .inl fA))] s.heap.size = A at hD ⊢
  have hA : ∀ q : Nat, s.heap.size ≤ q → A q := fun q h => by rw [← hAe]; exact Or.inr h
  have hP : va_P (dC, dI) cls [(h0, .inr (11, [.ref sl, .ref walker_, .ref rd, .ref machine_, .ref trial_, .ref dk])), (rd, .inr (4, [.ref lenses_, .int 0, .int 0, .int 0, .int (-1), .int (-1), .ref tp, .ref names_, .ref quoted_, .ref links_, .ref walker2_, .int 0, .int 0, .int 0])), (tp, .inl (cI, 600, .inl fA))] s.heap := hP
  have hl := lv_entry ([.ref h0, .int v1, .int v2, .int v3, .int v4, .int v5]) (n := 6) (Nat.le_of_ble_eq_true rfl)
  rw [lg_entry_eq]
  generalize (lg_sl ([.ref h0, .int v1, .int v2, .int v3, .int v4, .int v5]) ++ List.replicate (6 - (lg_sl ([.ref h0, .int v1, .int v2, .int v3, .int v4, .int v5])).length) Slot.unset).toArray = ls at hl ⊢
  have hl : lv_has ls 6 [(0, .ref h0), (1, .int v1), (2, .int v2), (3, .int v3), (4, .int v4), (5, .int v5)] := hl
  obtain ⟨H, hH⟩ : ∃ H : Heap, s.heap = H := ⟨_, rfl⟩
  rw [hH] at hP ⊢
  have hS : va_S A s.heap H [] := by rw [← hH]; exact va_S.rf
  refine lv_aload_n hx hb dX11_feed_0 rfl (lv_at hl 0 rfl) ?_
  refine va_get (D := (dC, dI)) (ci := 11) (v := .ref rd) (C := RX11) (T := TX11) (N := 6) hx hb hts ik_feed_RX11 hown hK hP 0 rfl rfl 2 (by decide) (hts (.fieldLink RX11 27 "PutBack" "reader" "LPutBack$Reader;") (by decide +kernel)) (fun _ h9 => h9) rfl dX11_feed_1 ?_
  refine va_get (D := (dC, dI)) (ci := 4) (v := .int 0) (C := RX4) (T := TX4) (N := 14) hx hb hts ik_feed_RX4 hown hK hP 1 rfl rfl 2 (by decide) (hts (.fieldLink RX11 53 "PutBack$Reader" "length" "I") (by decide +kernel)) (fun _ h9 => h9) rfl dX11_feed_4 ?_
  refine lv_bipush (v := 20) hx hb dX11_feed_7 (by decide) ?_
  refine lv_iadd hx hb dX11_feed_9 ?_
  refine lv_topi (fun z_1 ez_1 => ?_)
  obtain rfl : z_1 = (20 : Int32) := ez_1.trans (by decide)
  refine lv_sipush (v := 600) hx hb dX11_feed_10 (by decide) ?_
  refine lv_icmp_le (tgt := 18) hx hb dX11_feed_13 (by decide) (fun c_2 => ?_) (fun c_2 => ?_)
  rotate_left
  · exact (by revert c_2; decide : False).elim
  refine lv_aload_n hx hb dX11_feed_18 rfl (lv_at hl 0 rfl) ?_
  refine va_get (D := (dC, dI)) (ci := 11) (v := .ref rd) (C := RX11) (T := TX11) (N := 6) hx hb hts ik_feed_RX11 hown hK hP 0 rfl rfl 2 (by decide) (hts (.fieldLink RX11 27 "PutBack" "reader" "LPutBack$Reader;") (by decide +kernel)) (fun _ h9 => h9) rfl dX11_feed_19 ?_
  refine lv_iload_n hx hb dX11_feed_22 rfl (lv_at hl 1 rfl) ?_
  have hPc := hP.sub (ws' := [(rd, .inr (4, [.ref lenses_, .int 0, .int 0, .int 0, .int (-1), .int (-1), .ref tp, .ref names_, .ref quoted_, .ref links_, .ref walker2_, .int 0, .int 0, .int 0])), (tp, .inl (cI, 600, .inl fA))]) [1, 2] rfl
  have hDc := hD.sub (ws' := [(rd, .inr (4, [.ref lenses_, .int 0, .int 0, .int 0, .int (-1), .int (-1), .ref tp, .ref names_, .ref quoted_, .ref links_, .ref walker2_, .int 0, .int 0, .int 0])), (tp, .inl (cI, 600, .inl fA))]) [1, 2] (by decide) rfl
  have hKc := hK.sub (tys' := [(cI, .int)]) [0] rfl
  have hFc := va_free (wc := [(rd, .inr (4, [.ref lenses_, .int 0, .int 0, .int 0, .int (-1), .int (-1), .ref tp, .ref names_, .ref quoted_, .ref links_, .ref walker2_, .int 0, .int 0, .int 0])), (tp, .inl (cI, 600, .inl fA))]) hD hS hA [1, 2] rfl
  refine va_callv (va_runV (As := [.int v1]) (rest := []) ⟨hx, hb, hml, hown, hts⟩ (k_take0 l dC dI H.size rd v1 lenses_ tp names_ quoted_ links_ walker2_ cI fA) (cwV 1 hts gk_feed_57 rfl rfl rfl (by decide +kernel) ⟨Nat.le_of_ble_eq_true rfl, Nat.le_of_ble_eq_true rfl⟩) ⟨fun a U g mk q => by obtain ⟨q0, q1, qP, qK, qD⟩ := q; exact ⟨q0, q1, qP, va_K.moved (u := U) (U := U.calling g mk a) (Vm.Alike.refl U.vm) qK, qD⟩, va_recv hK hP (ci := 4) (q0 := 1) rfl rfl, fun U hU hW => ⟨rfl, by rw [hU], by rw [hU]; exact hPc, va_K.moved hW.alike hKc, hDc.weaken (fun _ _ _ _ => trivial)⟩⟩ rfl rfl hl.1 rfl (lv_room (Nat.le_of_ble_eq_true rfl)) dX11_feed_23 ⟨Nat.le_of_ble_eq_true rfl, Nat.le_of_ble_eq_true rfl⟩) hS (fun q _ h => hFc q h) hFc (fun u t H1 locs ht hvm hw hB hz1 hk1 hS => ?_)
  obtain ⟨a_5, hP1, hK1, hD1⟩ := hB
  rw [ht] at hP1
  try dsimp only at hw
  obtain ⟨hP, hD⟩ := va_join (wr := [(h0, .inr (11, [.ref sl, .ref walker_, .ref rd, .ref machine_, .ref trial_, .ref dk]))]) (w1 := [(rd, .inr (4, [.ref lenses_, .int 0, .int 4, .int 0, .int (-1), .int (-1), .ref tp, .ref names_, .ref quoted_, .ref links_, .ref walker2_, .int 0, .int 0, .int 0])), (tp, .inl (cI, 600, .inl a_5))]) hP hD [1, 2] [0] rfl rfl (by decide) (by decide) hk1 hFc hP1 hD1
  clear hk1 hz1 hPc hDc hFc hP1 hD1 hK1 hKc
  generalize H1 = H at hP hS ⊢
  have hP : va_P (dC, dI) cls [(h0, .inr (11, [.ref sl, .ref walker_, .ref rd, .ref machine_, .ref trial_, .ref dk])), (rd, .inr (4, [.ref lenses_, .int 0, .int 4, .int 0, .int (-1), .int (-1), .ref tp, .ref names_, .ref quoted_, .ref links_, .ref walker2_, .int 0, .int 0, .int 0])), (tp, .inl (cI, 600, .inl a_5))] H := hP
  have hD : va_D A [(h0, .inr (11, [.ref sl, .ref walker_, .ref rd, .ref machine_, .ref trial_, .ref dk])), (rd, .inr (4, [.ref lenses_, .int 0, .int 4, .int 0, .int (-1), .int (-1), .ref tp, .ref names_, .ref quoted_, .ref links_, .ref walker2_, .int 0, .int 0, .int 0])), (tp, .inl (cI, 600, .inl a_5))] := hD
  refine lv_aload_n hx hb dX11_feed_26 rfl (lv_at hl 0 rfl) ?_
  refine va_get (D := (dC, dI)) (ci := 11) (v := .ref rd) (C := RX11) (T := TX11) (N := 6) hx hb hts ik_feed_RX11 hown hK hP 0 rfl rfl 2 (by decide) (hts (.fieldLink RX11 27 "PutBack" "reader" "LPutBack$Reader;") (by decide +kernel)) (fun _ h9 => h9) rfl dX11_feed_27 ?_
  refine lv_iload_n hx hb dX11_feed_30 rfl (lv_at hl 2 rfl) ?_
  have hPc := hP.sub (ws' := [(rd, .inr (4, [.ref lenses_, .int 0, .int 4, .int 0, .int (-1), .int (-1), .ref tp, .ref names_, .ref quoted_, .ref links_, .ref walker2_, .int 0, .int 0, .int 0])), (tp, .inl (cI, 600, .inl a_5))]) [1, 2] rfl
  have hDc := hD.sub (ws' := [(rd, .inr (4, [.ref lenses_, .int 0, .int 4, .int 0, .int (-1), .int (-1), .ref tp, .ref names_, .ref quoted_, .ref links_, .ref walker2_, .int 0, .int 0, .int 0])), (tp, .inl (cI, 600, .inl a_5))]) [1, 2] (by decide) rfl
  have hKc := hK.sub (tys' := [(cI, .int)]) [0] rfl
  have hFc := va_free (wc := [(rd, .inr (4, [.ref lenses_, .int 0, .int 4, .int 0, .int (-1), .int (-1), .ref tp, .ref names_, .ref quoted_, .ref links_, .ref walker2_, .int 0, .int 0, .int 0])), (tp, .inl (cI, 600, .inl a_5))]) hD hS hA [1, 2] rfl
  refine va_callv (va_runV (As := [.int v2]) (rest := []) ⟨hx, hb, hml, hown, hts⟩ (k_take4 l dC dI H.size rd v2 lenses_ tp names_ quoted_ links_ walker2_ cI a_5) (cwV 1 hts gk_feed_57 rfl rfl rfl (by decide +kernel) ⟨Nat.le_of_ble_eq_true rfl, Nat.le_of_ble_eq_true rfl⟩) ⟨fun a U g mk q => by obtain ⟨q0, q1, qP, qK, qD⟩ := q; exact ⟨q0, q1, qP, va_K.moved (u := U) (U := U.calling g mk a) (Vm.Alike.refl U.vm) qK, qD⟩, va_recv hK hP (ci := 4) (q0 := 1) rfl rfl, fun U hU hW => ⟨rfl, by rw [hU], by rw [hU]; exact hPc, va_K.moved hW.alike hKc, hDc.weaken (fun _ _ _ _ => trivial)⟩⟩ rfl rfl hl.1 rfl (lv_room (Nat.le_of_ble_eq_true rfl)) dX11_feed_31 ⟨Nat.le_of_ble_eq_true rfl, Nat.le_of_ble_eq_true rfl⟩) hS (fun q _ h => hFc q h) hFc (fun u t H1 locs ht hvm hw hB hz1 hk1 hS => ?_)
  obtain ⟨a_8, hP1, hK1, hD1⟩ := hB
  rw [ht] at hP1
  try dsimp only at hw
  obtain ⟨hP, hD⟩ := va_join (wr := [(h0, .inr (11, [.ref sl, .ref walker_, .ref rd, .ref machine_, .ref trial_, .ref dk]))]) (w1 := [(rd, .inr (4, [.ref lenses_, .int 0, .int 8, .int 0, .int (-1), .int (-1), .ref tp, .ref names_, .ref quoted_, .ref links_, .ref walker2_, .int 0, .int 0, .int 0])), (tp, .inl (cI, 600, .inl a_8))]) hP hD [1, 2] [0] rfl rfl (by decide) (by decide) hk1 hFc hP1 hD1
  clear hk1 hz1 hPc hDc hFc hP1 hD1 hK1 hKc
  generalize H1 = H at hP hS ⊢
  have hP : va_P (dC, dI) cls [(h0, .inr (11, [.ref sl, .ref walker_, .ref rd, .ref machine_, .ref trial_, .ref dk])), (rd, .inr (4, [.ref lenses_, .int 0, .int 8, .int 0, .int (-1), .int (-1), .ref tp, .ref names_, .ref quoted_, .ref links_, .ref walker2_, .int 0, .int 0, .int 0])), (tp, .inl (cI, 600, .inl a_8))] H := hP
  have hD : va_D A [(h0, .inr (11, [.ref sl, .ref walker_, .ref rd, .ref machine_, .ref trial_, .ref dk])), (rd, .inr (4, [.ref lenses_, .int 0, .int 8, .int 0, .int (-1), .int (-1), .ref tp, .ref names_, .ref quoted_, .ref links_, .ref walker2_, .int 0, .int 0, .int 0])), (tp, .inl (cI, 600, .inl a_8))] := hD
  refine lv_aload_n hx hb dX11_feed_34 rfl (lv_at hl 0 rfl) ?_
  refine va_get (D := (dC, dI)) (ci := 11) (v := .ref rd) (C := RX11) (T := TX11) (N := 6) hx hb hts ik_feed_RX11 hown hK hP 0 rfl rfl 2 (by decide) (hts (.fieldLink RX11 27 "PutBack" "reader" "LPutBack$Reader;") (by decide +kernel)) (fun _ h9 => h9) rfl dX11_feed_35 ?_
  refine lv_iload_n hx hb dX11_feed_38 rfl (lv_at hl 3 rfl) ?_
  have hPc := hP.sub (ws' := [(rd, .inr (4, [.ref lenses_, .int 0, .int 8, .int 0, .int (-1), .int (-1), .ref tp, .ref names_, .ref quoted_, .ref links_, .ref walker2_, .int 0, .int 0, .int 0])), (tp, .inl (cI, 600, .inl a_8))]) [1, 2] rfl
  have hDc := hD.sub (ws' := [(rd, .inr (4, [.ref lenses_, .int 0, .int 8, .int 0, .int (-1), .int (-1), .ref tp, .ref names_, .ref quoted_, .ref links_, .ref walker2_, .int 0, .int 0, .int 0])), (tp, .inl (cI, 600, .inl a_8))]) [1, 2] (by decide) rfl
  have hKc := hK.sub (tys' := [(cI, .int)]) [0] rfl
  have hFc := va_free (wc := [(rd, .inr (4, [.ref lenses_, .int 0, .int 8, .int 0, .int (-1), .int (-1), .ref tp, .ref names_, .ref quoted_, .ref links_, .ref walker2_, .int 0, .int 0, .int 0])), (tp, .inl (cI, 600, .inl a_8))]) hD hS hA [1, 2] rfl
  refine va_callv (va_runV (As := [.int v3]) (rest := []) ⟨hx, hb, hml, hown, hts⟩ (k_take8 l dC dI H.size rd v3 lenses_ tp names_ quoted_ links_ walker2_ cI a_8) (cwV 1 hts gk_feed_57 rfl rfl rfl (by decide +kernel) ⟨Nat.le_of_ble_eq_true rfl, Nat.le_of_ble_eq_true rfl⟩) ⟨fun a U g mk q => by obtain ⟨q0, q1, qP, qK, qD⟩ := q; exact ⟨q0, q1, qP, va_K.moved (u := U) (U := U.calling g mk a) (Vm.Alike.refl U.vm) qK, qD⟩, va_recv hK hP (ci := 4) (q0 := 1) rfl rfl, fun U hU hW => ⟨rfl, by rw [hU], by rw [hU]; exact hPc, va_K.moved hW.alike hKc, hDc.weaken (fun _ _ _ _ => trivial)⟩⟩ rfl rfl hl.1 rfl (lv_room (Nat.le_of_ble_eq_true rfl)) dX11_feed_39 ⟨Nat.le_of_ble_eq_true rfl, Nat.le_of_ble_eq_true rfl⟩) hS (fun q _ h => hFc q h) hFc (fun u t H1 locs ht hvm hw hB hz1 hk1 hS => ?_)
  obtain ⟨a_11, hP1, hK1, hD1⟩ := hB
  rw [ht] at hP1
  try dsimp only at hw
  obtain ⟨hP, hD⟩ := va_join (wr := [(h0, .inr (11, [.ref sl, .ref walker_, .ref rd, .ref machine_, .ref trial_, .ref dk]))]) (w1 := [(rd, .inr (4, [.ref lenses_, .int 0, .int 12, .int 0, .int (-1), .int (-1), .ref tp, .ref names_, .ref quoted_, .ref links_, .ref walker2_, .int 0, .int 0, .int 0])), (tp, .inl (cI, 600, .inl a_11))]) hP hD [1, 2] [0] rfl rfl (by decide) (by decide) hk1 hFc hP1 hD1
  clear hk1 hz1 hPc hDc hFc hP1 hD1 hK1 hKc
  generalize H1 = H at hP hS ⊢
  have hP : va_P (dC, dI) cls [(h0, .inr (11, [.ref sl, .ref walker_, .ref rd, .ref machine_, .ref trial_, .ref dk])), (rd, .inr (4, [.ref lenses_, .int 0, .int 12, .int 0, .int (-1), .int (-1), .ref tp, .ref names_, .ref quoted_, .ref links_, .ref walker2_, .int 0, .int 0, .int 0])), (tp, .inl (cI, 600, .inl a_11))] H := hP
  have hD : va_D A [(h0, .inr (11, [.ref sl, .ref walker_, .ref rd, .ref machine_, .ref trial_, .ref dk])), (rd, .inr (4, [.ref lenses_, .int 0, .int 12, .int 0, .int (-1), .int (-1), .ref tp, .ref names_, .ref quoted_, .ref links_, .ref walker2_, .int 0, .int 0, .int 0])), (tp, .inl (cI, 600, .inl a_11))] := hD
  refine lv_aload_n hx hb dX11_feed_42 rfl (lv_at hl 0 rfl) ?_
  refine va_get (D := (dC, dI)) (ci := 11) (v := .ref rd) (C := RX11) (T := TX11) (N := 6) hx hb hts ik_feed_RX11 hown hK hP 0 rfl rfl 2 (by decide) (hts (.fieldLink RX11 27 "PutBack" "reader" "LPutBack$Reader;") (by decide +kernel)) (fun _ h9 => h9) rfl dX11_feed_43 ?_
  refine lv_iload hx hb dX11_feed_46 (lv_at hl 4 rfl) ?_
  have hPc := hP.sub (ws' := [(rd, .inr (4, [.ref lenses_, .int 0, .int 12, .int 0, .int (-1), .int (-1), .ref tp, .ref names_, .ref quoted_, .ref links_, .ref walker2_, .int 0, .int 0, .int 0])), (tp, .inl (cI, 600, .inl a_11))]) [1, 2] rfl
  have hDc := hD.sub (ws' := [(rd, .inr (4, [.ref lenses_, .int 0, .int 12, .int 0, .int (-1), .int (-1), .ref tp, .ref names_, .ref quoted_, .ref links_, .ref walker2_, .int 0, .int 0, .int 0])), (tp, .inl (cI, 600, .inl a_11))]) [1, 2] (by decide) rfl
  have hKc := hK.sub (tys' := [(cI, .int)]) [0] rfl
  have hFc := va_free (wc := [(rd, .inr (4, [.ref lenses_, .int 0, .int 12, .int 0, .int (-1), .int (-1), .ref tp, .ref names_, .ref quoted_, .ref links_, .ref walker2_, .int 0, .int 0, .int 0])), (tp, .inl (cI, 600, .inl a_11))]) hD hS hA [1, 2] rfl
  refine va_callv (va_runV (As := [.int v4]) (rest := []) ⟨hx, hb, hml, hown, hts⟩ (k_take12 l dC dI H.size rd v4 lenses_ tp names_ quoted_ links_ walker2_ cI a_11) (cwV 1 hts gk_feed_57 rfl rfl rfl (by decide +kernel) ⟨Nat.le_of_ble_eq_true rfl, Nat.le_of_ble_eq_true rfl⟩) ⟨fun a U g mk q => by obtain ⟨q0, q1, qP, qK, qD⟩ := q; exact ⟨q0, q1, qP, va_K.moved (u := U) (U := U.calling g mk a) (Vm.Alike.refl U.vm) qK, qD⟩, va_recv hK hP (ci := 4) (q0 := 1) rfl rfl, fun U hU hW => ⟨rfl, by rw [hU], by rw [hU]; exact hPc, va_K.moved hW.alike hKc, hDc.weaken (fun _ _ _ _ => trivial)⟩⟩ rfl rfl hl.1 rfl (lv_room (Nat.le_of_ble_eq_true rfl)) dX11_feed_48 ⟨Nat.le_of_ble_eq_true rfl, Nat.le_of_ble_eq_true rfl⟩) hS (fun q _ h => hFc q h) hFc (fun u t H1 locs ht hvm hw hB hz1 hk1 hS => ?_)
  obtain ⟨a_14, hP1, hK1, hD1⟩ := hB
  rw [ht] at hP1
  try dsimp only at hw
  obtain ⟨hP, hD⟩ := va_join (wr := [(h0, .inr (11, [.ref sl, .ref walker_, .ref rd, .ref machine_, .ref trial_, .ref dk]))]) (w1 := [(rd, .inr (4, [.ref lenses_, .int 0, .int 16, .int 0, .int (-1), .int (-1), .ref tp, .ref names_, .ref quoted_, .ref links_, .ref walker2_, .int 0, .int 0, .int 0])), (tp, .inl (cI, 600, .inl a_14))]) hP hD [1, 2] [0] rfl rfl (by decide) (by decide) hk1 hFc hP1 hD1
  clear hk1 hz1 hPc hDc hFc hP1 hD1 hK1 hKc
  generalize H1 = H at hP hS ⊢
  have hP : va_P (dC, dI) cls [(h0, .inr (11, [.ref sl, .ref walker_, .ref rd, .ref machine_, .ref trial_, .ref dk])), (rd, .inr (4, [.ref lenses_, .int 0, .int 16, .int 0, .int (-1), .int (-1), .ref tp, .ref names_, .ref quoted_, .ref links_, .ref walker2_, .int 0, .int 0, .int 0])), (tp, .inl (cI, 600, .inl a_14))] H := hP
  have hD : va_D A [(h0, .inr (11, [.ref sl, .ref walker_, .ref rd, .ref machine_, .ref trial_, .ref dk])), (rd, .inr (4, [.ref lenses_, .int 0, .int 16, .int 0, .int (-1), .int (-1), .ref tp, .ref names_, .ref quoted_, .ref links_, .ref walker2_, .int 0, .int 0, .int 0])), (tp, .inl (cI, 600, .inl a_14))] := hD
  refine lv_aload_n hx hb dX11_feed_51 rfl (lv_at hl 0 rfl) ?_
  refine va_get (D := (dC, dI)) (ci := 11) (v := .ref rd) (C := RX11) (T := TX11) (N := 6) hx hb hts ik_feed_RX11 hown hK hP 0 rfl rfl 2 (by decide) (hts (.fieldLink RX11 27 "PutBack" "reader" "LPutBack$Reader;") (by decide +kernel)) (fun _ h9 => h9) rfl dX11_feed_52 ?_
  refine lv_iload hx hb dX11_feed_55 (lv_at hl 5 rfl) ?_
  have hPc := hP.sub (ws' := [(rd, .inr (4, [.ref lenses_, .int 0, .int 16, .int 0, .int (-1), .int (-1), .ref tp, .ref names_, .ref quoted_, .ref links_, .ref walker2_, .int 0, .int 0, .int 0])), (tp, .inl (cI, 600, .inl a_14))]) [1, 2] rfl
  have hDc := hD.sub (ws' := [(rd, .inr (4, [.ref lenses_, .int 0, .int 16, .int 0, .int (-1), .int (-1), .ref tp, .ref names_, .ref quoted_, .ref links_, .ref walker2_, .int 0, .int 0, .int 0])), (tp, .inl (cI, 600, .inl a_14))]) [1, 2] (by decide) rfl
  have hKc := hK.sub (tys' := [(cI, .int)]) [0] rfl
  have hFc := va_free (wc := [(rd, .inr (4, [.ref lenses_, .int 0, .int 16, .int 0, .int (-1), .int (-1), .ref tp, .ref names_, .ref quoted_, .ref links_, .ref walker2_, .int 0, .int 0, .int 0])), (tp, .inl (cI, 600, .inl a_14))]) hD hS hA [1, 2] rfl
  refine va_callv (va_runV (As := [.int v5]) (rest := []) ⟨hx, hb, hml, hown, hts⟩ (k_take16 l dC dI H.size rd v5 lenses_ tp names_ quoted_ links_ walker2_ cI a_14) (cwV 1 hts gk_feed_57 rfl rfl rfl (by decide +kernel) ⟨Nat.le_of_ble_eq_true rfl, Nat.le_of_ble_eq_true rfl⟩) ⟨fun a U g mk q => by obtain ⟨q0, q1, qP, qK, qD⟩ := q; exact ⟨q0, q1, qP, va_K.moved (u := U) (U := U.calling g mk a) (Vm.Alike.refl U.vm) qK, qD⟩, va_recv hK hP (ci := 4) (q0 := 1) rfl rfl, fun U hU hW => ⟨rfl, by rw [hU], by rw [hU]; exact hPc, va_K.moved hW.alike hKc, hDc.weaken (fun _ _ _ _ => trivial)⟩⟩ rfl rfl hl.1 rfl (lv_room (Nat.le_of_ble_eq_true rfl)) dX11_feed_57 ⟨Nat.le_of_ble_eq_true rfl, Nat.le_of_ble_eq_true rfl⟩) hS (fun q _ h => hFc q h) hFc (fun u t H1 locs ht hvm hw hB hz1 hk1 hS => ?_)
  obtain ⟨a_17, hP1, hK1, hD1⟩ := hB
  rw [ht] at hP1
  try dsimp only at hw
  obtain ⟨hP, hD⟩ := va_join (wr := [(h0, .inr (11, [.ref sl, .ref walker_, .ref rd, .ref machine_, .ref trial_, .ref dk]))]) (w1 := [(rd, .inr (4, [.ref lenses_, .int 0, .int 20, .int 0, .int (-1), .int (-1), .ref tp, .ref names_, .ref quoted_, .ref links_, .ref walker2_, .int 0, .int 0, .int 0])), (tp, .inl (cI, 600, .inl a_17))]) hP hD [1, 2] [0] rfl rfl (by decide) (by decide) hk1 hFc hP1 hD1
  clear hk1 hz1 hPc hDc hFc hP1 hD1 hK1 hKc
  generalize H1 = H at hP hS ⊢
  have hP : va_P (dC, dI) cls [(h0, .inr (11, [.ref sl, .ref walker_, .ref rd, .ref machine_, .ref trial_, .ref dk])), (rd, .inr (4, [.ref lenses_, .int 0, .int 20, .int 0, .int (-1), .int (-1), .ref tp, .ref names_, .ref quoted_, .ref links_, .ref walker2_, .int 0, .int 0, .int 0])), (tp, .inl (cI, 600, .inl a_17))] H := hP
  have hD : va_D A [(h0, .inr (11, [.ref sl, .ref walker_, .ref rd, .ref machine_, .ref trial_, .ref dk])), (rd, .inr (4, [.ref lenses_, .int 0, .int 20, .int 0, .int (-1), .int (-1), .ref tp, .ref names_, .ref quoted_, .ref links_, .ref walker2_, .int 0, .int 0, .int 0])), (tp, .inl (cI, 600, .inl a_17))] := hD
  refine lv_aload_n hx hb dX11_feed_60 rfl (lv_at hl 0 rfl) ?_
  refine va_get (D := (dC, dI)) (ci := 11) (v := .ref rd) (C := RX11) (T := TX11) (N := 6) hx hb hts ik_feed_RX11 hown hK hP 0 rfl rfl 2 (by decide) (hts (.fieldLink RX11 27 "PutBack" "reader" "LPutBack$Reader;") (by decide +kernel)) (fun _ h9 => h9) rfl dX11_feed_61 ?_
  refine va_get (D := (dC, dI)) (ci := 4) (v := .int 20) (C := RX4) (T := TX4) (N := 14) hx hb hts ik_feed_RX4 hown hK hP 1 rfl rfl 2 (by decide) (hts (.fieldLink RX11 53 "PutBack$Reader" "length" "I") (by decide +kernel)) (fun _ h9 => h9) rfl dX11_feed_64 ?_
  have hK9 := hK.sub (tys' := [(cI, .int)]) [0] rfl
  have hP9 := hP.sub (ws' := []) [] rfl
  have hD9 := hD.sub (ws' := []) [] (by decide) rfl
  exact W.iret (v := 20) hx hb hr (fun t ht hW => ⟨⟨20, (), rfl, rfl, by rw [ht]; exact hP9, va_K.moved hW.alike hK9, hD9⟩, hS.F ht⟩) hS.2.2 dX11_feed_67
