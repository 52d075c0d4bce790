def wk_slotAt : List Cond := .code yX11_slotAt cX11_slotAt 2 (some (.object "PutBack$Text")) :: ([.fieldLink RX11 11 "PutBack" "slots" "[LPutBack$Text;"] ++ wsX110)
theorem ik_slotAt_RX11 : ∀ w ∈ u_ws RX11 TX11 6, w ∈ wk_slotAt := fun w h => List.mem_cons_of_mem _ (List.mem_append_right _ h)
set_option maxHeartbeats 4000000 in
set_option maxRecDepth 100000 in
theorem k_slotAt (l : Launch) (dC : Nat → ClassId) (dI : Nat → Nat → Nat) (sz : Nat) (h0 : Nat) (v1 : Int32) (sl : Nat) (walker_ : Nat) (rd : Nat) (machine_ : Nat) (trial_ : Nat) (dk : Nat) (cT : ClassId) (fT : Nat → Option Nat) (hf : ∀ i : Int32, inS i → ∃ t, fT i.toNatClampNeg = some t) : Met l yX11_slotAt wk_slotAt ({ frames := 0, cells := 0, slots := 0, locals := 0 } : Room) (va_Pc [.ref h0, .int v1] (fun U => U.heap.size = sz ∧ va_P (dC, dI) cls [(h0, .inr (11, [.ref sl, .ref walker_, .ref rd, .ref machine_, .ref trial_, .ref dk])), (sl, .inl (cT, 8, .inr (.inr (.inr (.inr fT)))))] U.heap ∧ va_K (dC, dI) cls [(cT, .object RX6)] U ∧ va_D (fun _ => True) [(h0, .inr (11, [.ref sl, .ref walker_, .ref rd, .ref machine_, .ref trial_, .ref dk])), (sl, .inl (cT, 8, .inr (.inr (.inr (.inr fT)))))])) (va_Qq (fun (r : Option Nat) (_ : Unit) => (inS v1 ∧ r = fT v1.toNatClampNeg) ∨ (¬ inS v1 ∧ r = none)) (fun (_ : Unit) t => va_P (dC, dI) cls [(h0, .inr (11, [.ref sl, .ref walker_, .ref rd, .ref machine_, .ref trial_, .ref dk])), (sl, .inl (cT, 8, .inr (.inr (.inr (.inr fT)))))] t.heap ∧ va_K (dC, dI) cls [(cT, .object RX6)] t ∧ va_D (va_A [(h0, .inr (11, [.ref sl, .ref walker_, .ref rd, .ref machine_, .ref trial_, .ref dk])), (sl, .inl (cT, 8, .inr (.inr (.inr (.inr fT)))))] sz) [(h0, .inr (11, [.ref sl, .ref walker_, .ref rd, .ref machine_, .ref trial_, .ref dk])), (sl, .inl (cT, 8, .inr (.inr (.inr (.inr fT)))))]) (va_A [(h0, .inr (11, [.ref sl, .ref walker_, .ref rd, .ref machine_, .ref trial_, .ref dk])), (sl, .inl (cT, 8, .inr (.inr (.inr (.inr fT)))))] sz)) 0 0 (va_A [(h0, .inr (11, [.ref sl, .ref walker_, .ref rd, .ref machine_, .ref trial_, .ref dk])), (sl, .inl (cT, 8, .inr (.inr (.inr (.inr fT)))))] sz) := by
  refine Met.ofW (cc := cX11_slotAt) (maxL := 2) (ret := (some (.object "PutBack$Text"))) (by decide) rfl ?_
  intro p e s m args below meth c s₁ B hml hv
  obtain ⟨rfl, hsz, hP, hK, hD0⟩ := hv
  have hx := B.exec
  have hb := B.bytes
  have hr := B.returns
  have hts := atoms_spec (ws := wk_slotAt) B.pre
  have hown : s.vm.findClass RX11 = some m.cls := findClass_of_methodNamed B.named
  have hlocks := B.notSynchronized
  subst hsz
  have hD := hD0.self (sz := s.heap.size)
  generalize hAe : va_A [(h0, .inr (11, [.ref sl, .ref walker_, .ref rd, .ref machine_, .ref trial_, .ref dk])), (sl, .inl (cT, 8, .inr (.inr (.inr (.inr fT)))))] s.heap.size = A at hD ⊢
  have hA : ∀ q : Nat, s.heap.size ≤ q → A q := fun q h => by rw [← hAe]; exact Or.inr h
  have hP : va_P (dC, dI) cls [(h0, .inr (11, [.ref sl, .ref walker_, .ref rd, .ref machine_, .ref trial_, .ref dk])), (sl, .inl (cT, 8, .inr (.inr (.inr (.inr fT)))))] s.heap := hP
  have hl := lv_entry ([.ref h0, .int v1]) (n := 2) (Nat.le_of_ble_eq_true rfl)
  rw [lg_entry_eq]
  generalize (lg_sl ([.ref h0, .int v1]) ++ List.replicate (2 - (lg_sl ([.ref h0, .int v1])).length) Slot.unset).toArray = ls at hl ⊢
  have hl : lv_has ls 2 [(0, .ref h0), (1, .int v1)] := hl
  obtain ⟨H, hH⟩ : ∃ H : Heap, s.heap = H := ⟨_, rfl⟩
  rw [hH] at hP ⊢
  have hS : va_S A s.heap H [] := by rw [← hH]; exact va_S.rf
  refine lv_iload_n hx hb dX11_slotAt_0 rfl (lv_at hl 1 rfl) ?_
  refine lv_if_lt (tgt := 19) hx hb dX11_slotAt_1 (by decide) (fun c_1 => ?_) (fun c_1 => ?_)
  · skip
    refine lv_null hx hb dX11_slotAt_19 ?_
    have hK9 := hK.sub (tys' := [(cT, .object RX6)]) [0] rfl
    have hP9 := hP.sub (ws' := [(h0, .inr (11, [.ref sl, .ref walker_, .ref rd, .ref machine_, .ref trial_, .ref dk])), (sl, .inl (cT, 8, .inr (.inr (.inr (.inr fT)))))]) [0, 1] rfl
    have hD9 := hD.sub (ws' := [(h0, .inr (11, [.ref sl, .ref walker_, .ref rd, .ref machine_, .ref trial_, .ref dk])), (sl, .inl (cT, 8, .inr (.inr (.inr (.inr fT)))))]) [0, 1] (by decide) rfl
    exact W.aret (v := .null) hx hb hr (by first | exact Or.inl ⟨_, rfl⟩ | exact Or.inr ⟨_, rfl⟩) (Or.inl rfl) (fun t ht hW => ⟨⟨none, (), rfl, Or.inr ⟨zS4 c_1, rfl⟩, by rw [ht]; exact hP9, va_K.moved hW.alike hK9, hD9⟩, hS.F ht⟩) hS.2.2 dX11_slotAt_20
  · skip
    refine lv_iload_n hx hb dX11_slotAt_4 rfl (lv_at hl 1 rfl) ?_
    refine lv_bipush (v := 8) hx hb dX11_slotAt_5 (by decide) ?_
    refine lv_icmp_ge (tgt := 19) hx hb dX11_slotAt_7 (by decide) (fun c_2 => ?_) (fun c_2 => ?_)
    · skip
      refine lv_null hx hb dX11_slotAt_19 ?_
      have hK9 := hK.sub (tys' := [(cT, .object RX6)]) [0] rfl
      have hP9 := hP.sub (ws' := [(h0, .inr (11, [.ref sl, .ref walker_, .ref rd, .ref machine_, .ref trial_, .ref dk])), (sl, .inl (cT, 8, .inr (.inr (.inr (.inr fT)))))]) [0, 1] rfl
      have hD9 := hD.sub (ws' := [(h0, .inr (11, [.ref sl, .ref walker_, .ref rd, .ref machine_, .ref trial_, .ref dk])), (sl, .inl (cT, 8, .inr (.inr (.inr (.inr fT)))))]) [0, 1] (by decide) rfl
      exact W.aret (v := .null) hx hb hr (by first | exact Or.inl ⟨_, rfl⟩ | exact Or.inr ⟨_, rfl⟩) (Or.inl rfl) (fun t ht hW => ⟨⟨none, (), rfl, Or.inr ⟨zS5 c_2, rfl⟩, by rw [ht]; exact hP9, va_K.moved hW.alike hK9, hD9⟩, hS.F ht⟩) hS.2.2 dX11_slotAt_20
    · skip
      have f_3 : inS v1 := zS3 c_1 c_2
      refine lv_aload_n hx hb dX11_slotAt_10 rfl (lv_at hl 0 rfl) ?_
      refine va_get (D := (dC, dI)) (ci := 11) (v := .ref sl) (C := RX11) (T := TX11) (N := 6) hx hb hts ik_slotAt_RX11 hown hK hP 0 rfl rfl 0 (by decide) (hts (.fieldLink RX11 11 "PutBack" "slots" "[LPutBack$Text;") (by decide +kernel)) (fun _ h9 => h9) rfl dX11_slotAt_11 ?_
      refine lv_iload_n hx hb dX11_slotAt_14 rfl (lv_at hl 1 rfl) ?_
      refine va_aldq hx hb hK hP 1 0 rfl rfl (zVp f_3) dX11_slotAt_15 ?_
      obtain ⟨t_4, et_4⟩ := hf v1 f_3
      refine W.eq (g2 := F0 m 16 ls [.ref t_4]) (by rw [et_4]; rfl) ?_
      refine lv_goto (tgt := 20) hx hb dX11_slotAt_16 (by decide) ?_
      have hK9 := hK.sub (tys' := [(cT, .object RX6)]) [0] rfl
      have hP9 := hP.sub (ws' := [(h0, .inr (11, [.ref sl, .ref walker_, .ref rd, .ref machine_, .ref trial_, .ref dk])), (sl, .inl (cT, 8, .inr (.inr (.inr (.inr fT)))))]) [0, 1] rfl
      have hD9 := hD.sub (ws' := [(h0, .inr (11, [.ref sl, .ref walker_, .ref rd, .ref machine_, .ref trial_, .ref dk])), (sl, .inl (cT, 8, .inr (.inr (.inr (.inr fT)))))]) [0, 1] (by decide) rfl
      exact W.aret (v := .ref t_4) hx hb hr (by first | exact Or.inl ⟨_, rfl⟩ | exact Or.inr ⟨_, rfl⟩) (Or.inr ⟨_, rfl⟩) (fun t ht hW => ⟨⟨some t_4, (), rfl, Or.inl ⟨f_3, et_4.symm⟩, by rw [ht]; exact hP9, va_K.moved hW.alike hK9, hD9⟩, hS.F ht⟩) hS.2.2 dX11_slotAt_20
def wk_lensAt : List Cond := .code yX11_lensAt cX11_lensAt 2 (some (.object "PutBack$Lens")) :: ([.fieldLink RX11 27 "PutBack" "reader" "LPutBack$Reader;", .fieldLink RX11 259 "PutBack$Reader" "told" "I"] ++ wsX40 ++ wsX110)
theorem ik_lensAt_RX4 : ∀ w ∈ u_ws RX4 TX4 14, w ∈ wk_lensAt := fun w h => List.mem_cons_of_mem _ (List.mem_append_left _ (List.mem_append_right _ h))
theorem ik_lensAt_RX11 : ∀ w ∈ u_ws RX11 TX11 6, w ∈ wk_lensAt := fun w h => List.mem_cons_of_mem _ (List.mem_append_right _ h)
set_option maxHeartbeats 4000000 in
set_option maxRecDepth 100000 in
theorem k_lensAt (l : Launch) (dC : Nat → ClassId) (dI : Nat → Nat → Nat) (sz : Nat) (h0 : Nat) (v1 : Int32) (sl : Nat) (walker_ : Nat) (rd : Nat) (machine_ : Nat) (trial_ : Nat) (dk : Nat) (lenses_ : Nat) (tp : Nat) (names_ : Nat) (quoted_ : Nat) (links_ : Nat) (walker2_ : Nat) : Met l yX11_lensAt wk_lensAt ({ frames := 0, cells := 0, slots := 0, locals := 0 } : Room) (va_Pc [.ref h0, .int v1] (fun U => U.heap.size = sz ∧ va_P (dC, dI) cls [(h0, .inr (11, [.ref sl, .ref walker_, .ref rd, .ref machine_, .ref trial_, .ref dk])), (rd, .inr (4, [.ref lenses_, .int 0, .int 0, .int 0, .int (-1), .int (-1), .ref tp, .ref names_, .ref quoted_, .ref links_, .ref walker2_, .int 0, .int 0, .int 0]))] U.heap ∧ va_K (dC, dI) cls [] U ∧ va_D (fun _ => True) [(h0, .inr (11, [.ref sl, .ref walker_, .ref rd, .ref machine_, .ref trial_, .ref dk])), (rd, .inr (4, [.ref lenses_, .int 0, .int 0, .int 0, .int (-1), .int (-1), .ref tp, .ref names_, .ref quoted_, .ref links_, .ref walker2_, .int 0, .int 0, .int 0]))])) (va_Qq (fun (r : Option Nat) (_ : Unit) => r = none) (fun (_ : Unit) t => va_P (dC, dI) cls [(h0, .inr (11, [.ref sl, .ref walker_, .ref rd, .ref machine_, .ref trial_, .ref dk])), (rd, .inr (4, [.ref lenses_, .int 0, .int 0, .int 0, .int (-1), .int (-1), .ref tp, .ref names_, .ref quoted_, .ref links_, .ref walker2_, .int 0, .int 0, .int 0]))] t.heap ∧ va_K (dC, dI) cls [] t ∧ va_D (va_A [(h0, .inr (11, [.ref sl, .ref walker_, .ref rd, .ref machine_, .ref trial_, .ref dk])), (rd, .inr (4, [.ref lenses_, .int 0, .int 0, .int 0, .int (-1), .int (-1), .ref tp, .ref names_, .ref quoted_, .ref links_, .ref walker2_, .int 0, .int 0, .int 0]))] sz) [(h0, .inr (11, [.ref sl, .ref walker_, .ref rd, .ref machine_, .ref trial_, .ref dk])), (rd, .inr (4, [.ref lenses_, .int 0, .int 0, .int 0, .int (-1), .int (-1), .ref tp, .ref names_, .ref quoted_, .ref links_, .ref walker2_, .int 0, .int 0, .int 0]))]) (va_A [(h0, .inr (11, [.ref sl, .ref walker_, .ref rd, .ref machine_, .ref trial_, .ref dk])), (rd, .inr (4, [.ref lenses_, .int 0, .int 0, .int 0, .int (-1), .int (-1), .ref tp, .ref names_, .ref quoted_, .ref links_, .ref walker2_, .int 0, .int 0, .int 0]))] sz)) 0 0 (va_A [(h0, .inr (11, [.ref sl, .ref walker_, .ref rd, .ref machine_, .ref trial_, .ref dk])), (rd, .inr (4, [.ref lenses_, .int 0, .int 0, .int 0, .int (-1), .int (-1), .ref tp, .ref names_, .ref quoted_, .ref links_, .ref walker2_, .int 0, .int 0, .int 0]))] sz) := by
  refine Met.ofW (cc := cX11_lensAt) (maxL := 2) (ret := (some (.object "PutBack$Lens"))) (by decide) rfl ?_
  intro p e s m args below meth c s₁ B hml hv
  obtain ⟨rfl, hsz, hP, hK, hD0⟩ := hv
  have hx := B.exec
  have hb := B.bytes
  have hr := B.returns
  have hts := atoms_spec (ws := wk_lensAt) B.pre
  have hown : s.vm.findClass RX11 = some m.cls := findClass_of_methodNamed B.named
  have hlocks := B.notSynchronized
  subst hsz
  have hD := hD0.self (sz := s.heap.size)
  generalize hAe : va_A [(h0, .inr (11, [.ref sl, .ref walker_, .ref rd, .ref machine_, .ref trial_, .ref dk])), (rd, .inr (4, [.ref lenses_, .int 0, .int 0, .int 0, .int (-1), .int (-1), .ref tp, .ref names_, .ref quoted_, .ref links_, .ref walker2_, .int 0, .int 0, .int 0]))] s.heap.size = A at hD ⊢
  have hA : ∀ q : Nat, s.heap.size ≤ q → A q := fun q h => by rw [← hAe]; exact Or.inr h
  have hP : va_P (dC, dI) cls [(h0, .inr (11, [.ref sl, .ref walker_, .ref rd, .ref machine_, .ref trial_, .ref dk])), (rd, .inr (4, [.ref lenses_, .int 0, .int 0, .int 0, .int (-1), .int (-1), .ref tp, .ref names_, .ref quoted_, .ref links_, .ref walker2_, .int 0, .int 0, .int 0]))] s.heap := hP
  have hl := lv_entry ([.ref h0, .int v1]) (n := 2) (Nat.le_of_ble_eq_true rfl)
  rw [lg_entry_eq]
  generalize (lg_sl ([.ref h0, .int v1]) ++ List.replicate (2 - (lg_sl ([.ref h0, .int v1])).length) Slot.unset).toArray = ls at hl ⊢
  have hl : lv_has ls 2 [(0, .ref h0), (1, .int v1)] := hl
  obtain ⟨H, hH⟩ : ∃ H : Heap, s.heap = H := ⟨_, rfl⟩
  rw [hH] at hP ⊢
  have hS : va_S A s.heap H [] := by rw [← hH]; exact va_S.rf
  refine lv_iload_n hx hb dX11_lensAt_0 rfl (lv_at hl 1 rfl) ?_
  refine lv_if_lt (tgt := 27) hx hb dX11_lensAt_1 (by decide) (fun c_1 => ?_) (fun c_1 => ?_)
  · skip
    refine lv_null hx hb dX11_lensAt_27 ?_
    have hK9 := hK.sub (tys' := []) [] rfl
    have hP9 := hP.sub (ws' := [(h0, .inr (11, [.ref sl, .ref walker_, .ref rd, .ref machine_, .ref trial_, .ref dk])), (rd, .inr (4, [.ref lenses_, .int 0, .int 0, .int 0, .int (-1), .int (-1), .ref tp, .ref names_, .ref quoted_, .ref links_, .ref walker2_, .int 0, .int 0, .int 0]))]) [0, 1] rfl
    have hD9 := hD.sub (ws' := [(h0, .inr (11, [.ref sl, .ref walker_, .ref rd, .ref machine_, .ref trial_, .ref dk])), (rd, .inr (4, [.ref lenses_, .int 0, .int 0, .int 0, .int (-1), .int (-1), .ref tp, .ref names_, .ref quoted_, .ref links_, .ref walker2_, .int 0, .int 0, .int 0]))]) [0, 1] (by decide) rfl
    exact W.aret (v := .null) hx hb hr (by first | exact Or.inl ⟨_, rfl⟩ | exact Or.inr ⟨_, rfl⟩) (Or.inl rfl) (fun t ht hW => ⟨⟨none, (), rfl, rfl, by rw [ht]; exact hP9, va_K.moved hW.alike hK9, hD9⟩, hS.F ht⟩) hS.2.2 dX11_lensAt_28
  · skip
    refine lv_iload_n hx hb dX11_lensAt_4 rfl (lv_at hl 1 rfl) ?_
    refine lv_aload_n hx hb dX11_lensAt_5 rfl (lv_at hl 0 rfl) ?_
    refine va_get (D := (dC, dI)) (ci := 11) (v := .ref rd) (C := RX11) (T := TX11) (N := 6) hx hb hts ik_lensAt_RX11 hown hK hP 0 rfl rfl 2 (by decide) (hts (.fieldLink RX11 27 "PutBack" "reader" "LPutBack$Reader;") (by decide +kernel)) (fun _ h9 => h9) rfl dX11_lensAt_6 ?_
    refine va_get (D := (dC, dI)) (ci := 4) (v := .int 0) (C := RX4) (T := TX4) (N := 14) hx hb hts ik_lensAt_RX4 hown hK hP 1 rfl rfl 1 (by decide) (hts (.fieldLink RX11 259 "PutBack$Reader" "told" "I") (by decide +kernel)) (fun _ h9 => h9) rfl dX11_lensAt_9 ?_
    refine lv_icmp_ge (tgt := 27) hx hb dX11_lensAt_12 (by decide) (fun c_2 => ?_) (fun c_2 => ?_)
    · skip
      refine lv_null hx hb dX11_lensAt_27 ?_
      have hK9 := hK.sub (tys' := []) [] rfl
      have hP9 := hP.sub (ws' := [(h0, .inr (11, [.ref sl, .ref walker_, .ref rd, .ref machine_, .ref trial_, .ref dk])), (rd, .inr (4, [.ref lenses_, .int 0, .int 0, .int 0, .int (-1), .int (-1), .ref tp, .ref names_, .ref quoted_, .ref links_, .ref walker2_, .int 0, .int 0, .int 0]))]) [0, 1] rfl
      have hD9 := hD.sub (ws' := [(h0, .inr (11, [.ref sl, .ref walker_, .ref rd, .ref machine_, .ref trial_, .ref dk])), (rd, .inr (4, [.ref lenses_, .int 0, .int 0, .int 0, .int (-1), .int (-1), .ref tp, .ref names_, .ref quoted_, .ref links_, .ref walker2_, .int 0, .int 0, .int 0]))]) [0, 1] (by decide) rfl
      exact W.aret (v := .null) hx hb hr (by first | exact Or.inl ⟨_, rfl⟩ | exact Or.inr ⟨_, rfl⟩) (Or.inl rfl) (fun t ht hW => ⟨⟨none, (), rfl, rfl, by rw [ht]; exact hP9, va_K.moved hW.alike hK9, hD9⟩, hS.F ht⟩) hS.2.2 dX11_lensAt_28
    · exact absurd (Int32.not_lt.mp c_1) c_2
def wk_setAt : List Cond := .code yX11_setAt cX11_setAt 4 (some (.object "PutBack$TextSet")) :: ([.methodLink RX11 105 yX11_lensAt, .instanceMethod yX11_lensAt, .selects RX11 yX11_lensAt yX11_lensAt, .initialized RX11, .code yX11_lensAt cX11_lensAt 2 (some (.object "PutBack$Lens")), .fieldLink RX11 27 "PutBack" "reader" "LPutBack$Reader;", .fieldLink RX11 259 "PutBack$Reader" "told" "I"] ++ wsX40 ++ wsX110)
theorem ik_setAt_RX4 : ∀ w ∈ u_ws RX4 TX4 14, w ∈ wk_setAt := fun w h => List.mem_cons_of_mem _ (List.mem_append_left _ (List.mem_append_right _ h))
theorem ik_setAt_RX11 : ∀ w ∈ u_ws RX11 TX11 6, w ∈ wk_setAt := fun w h => List.mem_cons_of_mem _ (List.mem_append_right _ h)
theorem gk_setAt_105g : GoodIn wk_setAt wk_lensAt := goodIn_r _ [5, 6, 7, 8, 9, 10, 11, 12, 13, 14, 15, 16, 17, 18, 19, 20, 21, 22, 23, 24, 25, 26, 27] (by decide +kernel) (by decide +kernel)
theorem gk_setAt_105 : GoodIn wk_setAt (wsV RX11 105 RX11 yX11_lensAt wk_lensAt) := goodIn_app (goodIn_of _ (by decide +kernel)) gk_setAt_105g
set_option maxHeartbeats 4000000 in
set_option maxRecDepth 100000 in
theorem k_setAt (l : Launch) (dC : Nat → ClassId) (dI : Nat → Nat → Nat) (sz : Nat) (h0 : Nat) (v1 : Int32) (v2 : Int32) (sl : Nat) (walker_ : Nat) (rd : Nat) (machine_ : Nat) (trial_ : Nat) (dk : Nat) (lenses_ : Nat) (tp : Nat) (names_ : Nat) (quoted_ : Nat) (links_ : Nat) (walker2_ : Nat) : Met l yX11_setAt wk_setAt ({ frames := 1, cells := 0, slots := 0, locals := 21 } : Room) (va_Pc [.ref h0, .int v1, .int v2] (fun U => U.heap.size = sz ∧ va_P (dC, dI) cls [(h0, .inr (11, [.ref sl, .ref walker_, .ref rd, .ref machine_, .ref trial_, .ref dk])), (rd, .inr (4, [.ref lenses_, .int 0, .int 0, .int 0, .int (-1), .int (-1), .ref tp, .ref names_, .ref quoted_, .ref links_, .ref walker2_, .int 0, .int 0, .int 0]))] U.heap ∧ va_K (dC, dI) cls [] U ∧ va_D (fun _ => True) [(h0, .inr (11, [.ref sl, .ref walker_, .ref rd, .ref machine_, .ref trial_, .ref dk])), (rd, .inr (4, [.ref lenses_, .int 0, .int 0, .int 0, .int (-1), .int (-1), .ref tp, .ref names_, .ref quoted_, .ref links_, .ref walker2_, .int 0, .int 0, .int 0]))])) (va_Qq (fun (r : Option Nat) (_ : Unit) => r = none) (fun (_ : Unit) t => va_P (dC, dI) cls [(h0, .inr (11, [.ref sl, .ref walker_, .ref rd, .ref machine_, .ref trial_, .ref dk])), (rd, .inr (4, [.ref lenses_, .int 0, .int 0, .int 0, .int (-1), .int (-1), .ref tp, .ref names_, .ref quoted_, .ref links_, .ref walker2_, .int 0, .int 0, .int 0]))] t.heap ∧ va_K (dC, dI) cls [] t ∧ va_D (va_A [(h0, .inr (11, [.ref sl, .ref walker_, .ref rd, .ref machine_, .ref trial_, .ref dk])), (rd, .inr (4, [.ref lenses_, .int 0, .int 0, .int 0, .int (-1), .int (-1), .ref tp, .ref names_, .ref quoted_, .ref links_, .ref walker2_, .int 0, .int 0, .int 0]))] sz) [(h0, .inr (11, [.ref sl, .ref walker_, .ref rd, .ref machine_, .ref trial_, .ref dk])), (rd, .inr (4, [.ref lenses_, .int 0, .int 0, .int 0, .int (-1), .int (-1), .ref tp, .ref names_, .ref quoted_, .ref links_, .ref walker2_, .int 0, .int 0, .int 0]))]) (va_A [(h0, .inr (11, [.ref sl, .ref walker_, .ref rd, .ref machine_, .ref trial_, .ref dk])), (rd, .inr (4, [.ref lenses_, .int 0, .int 0, .int 0, .int (-1), .int (-1), .ref tp, .ref names_, .ref quoted_, .ref links_, .ref walker2_, .int 0, .int 0, .int 0]))] sz)) 0 0 (va_A [(h0, .inr (11, [.ref sl, .ref walker_, .ref rd, .ref machine_, .ref trial_, .ref dk])), (rd, .inr (4, [.ref lenses_, .int 0, .int 0, .int 0, .int (-1), .int (-1), .ref tp, .ref names_, .ref quoted_, .ref links_, .ref walker2_, .int 0, .int 0, .int 0]))] sz) := by
  refine Met.ofW (cc := cX11_setAt) (maxL := 4) (ret := (some (.object "PutBack$TextSet"))) (by decide) rfl ?_
  intro p e s m args below meth c s₁ B hml hv
  obtain ⟨rfl, hsz, hP, hK, hD0⟩ := hv
  have hx := B.exec
  have hb := B.bytes
  have hr := B.returns
  have hts := atoms_spec (ws := wk_setAt) B.pre
  have hown : s.vm.findClass RX11 = some m.cls := findClass_of_methodNamed B.named
  have hlocks := B.notSynchronized
  subst hsz
  have hD := hD0.self (sz := s.heap.size)
  generalize hAe : va_A [(h0, .inr (11, [.ref sl, .ref walker_, .ref rd, .ref machine_, .ref trial_, .ref dk])), (rd, .inr (4, [.ref lenses_, .int 0, .int 0, .int 0, .int (-1), .int (-1), .ref tp, .ref names_, .ref quoted_, .ref links_, .ref walker2_, .int 0, .int 0, .int 0]))] s.heap.size = A at hD ⊢
  have hA : ∀ q : Nat, s.heap.size ≤ q → A q := fun q h => by rw [← hAe]; exact Or.inr h
  have hP : va_P (dC, dI) cls [(h0, .inr (11, [.ref sl, .ref walker_, .ref rd, .ref machine_, .ref trial_, .ref dk])), (rd, .inr (4, [.ref lenses_, .int 0, .int 0, .int 0, .int (-1), .int (-1), .ref tp, .ref names_, .ref quoted_, .ref links_, .ref walker2_, .int 0, .int 0, .int 0]))] s.heap := hP
  have hl := lv_entry ([.ref h0, .int v1, .int v2]) (n := 4) (Nat.le_of_ble_eq_true rfl)
  rw [lg_entry_eq]
  generalize (lg_sl ([.ref h0, .int v1, .int v2]) ++ List.replicate (4 - (lg_sl ([.ref h0, .int v1, .int v2])).length) Slot.unset).toArray = ls at hl ⊢
  have hl : lv_has ls 4 [(0, .ref h0), (1, .int v1), (2, .int v2)] := hl
  obtain ⟨H, hH⟩ : ∃ H : Heap, s.heap = H := ⟨_, rfl⟩
  rw [hH] at hP ⊢
  have hS : va_S A s.heap H [] := by rw [← hH]; exact va_S.rf
  refine lv_aload_n hx hb dX11_setAt_0 rfl (lv_at hl 0 rfl) ?_
  refine lv_iload_n hx hb dX11_setAt_1 rfl (lv_at hl 1 rfl) ?_
  have hPc := hP.sub (ws' := [(h0, .inr (11, [.ref sl, .ref walker_, .ref rd, .ref machine_, .ref trial_, .ref dk])), (rd, .inr (4, [.ref lenses_, .int 0, .int 0, .int 0, .int (-1), .int (-1), .ref tp, .ref names_, .ref quoted_, .ref links_, .ref walker2_, .int 0, .int 0, .int 0]))]) [0, 1] rfl
  have hDc := hD.sub (ws' := [(h0, .inr (11, [.ref sl, .ref walker_, .ref rd, .ref machine_, .ref trial_, .ref dk])), (rd, .inr (4, [.ref lenses_, .int 0, .int 0, .int 0, .int (-1), .int (-1), .ref tp, .ref names_, .ref quoted_, .ref links_, .ref walker2_, .int 0, .int 0, .int 0]))]) [0, 1] (by decide) rfl
  have hKc := hK.sub (tys' := []) [] rfl
  have hFc := va_free (wc := [(h0, .inr (11, [.ref sl, .ref walker_, .ref rd, .ref machine_, .ref trial_, .ref dk])), (rd, .inr (4, [.ref lenses_, .int 0, .int 0, .int 0, .int (-1), .int (-1), .ref tp, .ref names_, .ref quoted_, .ref links_, .ref walker2_, .int 0, .int 0, .int 0]))]) hD hS hA [0, 1] rfl
  refine va_callq (va_runV (As := [.int v1]) (rest := []) ⟨hx, hb, hml, hown, hts⟩ (k_lensAt l dC dI H.size h0 v1 sl walker_ rd machine_ trial_ dk lenses_ tp names_ quoted_ links_ walker2_) (cwV 1 hts gk_setAt_105 rfl rfl rfl (by decide +kernel) ⟨Nat.le_of_ble_eq_true rfl, Nat.le_of_ble_eq_true rfl⟩) ⟨fun a U g mk q => by obtain ⟨q0, q1, qP, qK, qD⟩ := q; exact ⟨q0, q1, qP, va_K.moved (u := U) (U := U.calling g mk a) (Vm.Alike.refl U.vm) qK, qD⟩, va_recv hK hP (ci := 11) (q0 := 0) rfl rfl, fun U hU hW => ⟨rfl, by rw [hU], by rw [hU]; exact hPc, va_K.moved hW.alike hKc, hDc.weaken (fun _ _ _ _ => trivial)⟩⟩ rfl rfl hl.1 rfl (lv_room (Nat.le_of_ble_eq_true rfl)) dX11_setAt_2 ⟨Nat.le_of_ble_eq_true rfl, Nat.le_of_ble_eq_true rfl⟩) hS (fun q _ h => hFc q h) hFc (fun r_2 u t H1 locs ht hvm hw hB hz1 hk1 hS => ?_)
  obtain ⟨hP1, hK1, hD1⟩ := hB
  rw [ht] at hP1
  try dsimp only at hw
  obtain ⟨hP, hD⟩ := va_join (wr := []) (w1 := [(h0, .inr (11, [.ref sl, .ref walker_, .ref rd, .ref machine_, .ref trial_, .ref dk])), (rd, .inr (4, [.ref lenses_, .int 0, .int 0, .int 0, .int (-1), .int (-1), .ref tp, .ref names_, .ref quoted_, .ref links_, .ref walker2_, .int 0, .int 0, .int 0]))]) hP hD [0, 1] [] rfl rfl (by decide) (by decide) hk1 hFc hP1 hD1
  clear hk1 hz1 hPc hDc hFc hP1 hD1 hK1 hKc
  generalize H1 = H at hP hS ⊢
  have hP : va_P (dC, dI) cls [(h0, .inr (11, [.ref sl, .ref walker_, .ref rd, .ref machine_, .ref trial_, .ref dk])), (rd, .inr (4, [.ref lenses_, .int 0, .int 0, .int 0, .int (-1), .int (-1), .ref tp, .ref names_, .ref quoted_, .ref links_, .ref walker2_, .int 0, .int 0, .int 0]))] H := hP
  have hD : va_D A [(h0, .inr (11, [.ref sl, .ref walker_, .ref rd, .ref machine_, .ref trial_, .ref dk])), (rd, .inr (4, [.ref lenses_, .int 0, .int 0, .int 0, .int (-1), .int (-1), .ref tp, .ref names_, .ref quoted_, .ref links_, .ref walker2_, .int 0, .int 0, .int 0]))] := hD
  obtain rfl := hw
  refine W.eq (g2 := F0 m 5 ls [.null]) rfl ?_
  refine lv_astore_nN (lv' := [(3, .null), (0, .ref h0), (1, .int v1), (2, .int v2)]) hx hb dX11_setAt_5 rfl hl (by decide) rfl (fun ls hl => ?_)
  refine lv_aload_nN hx hb dX11_setAt_6 rfl (lv_at hl 0 rfl) ?_
  refine lv_ifnullN (tgt := 19) hx hb dX11_setAt_7 (by decide) ?_
  refine lv_null hx hb dX11_setAt_19 ?_
  have hK9 := hK.sub (tys' := []) [] rfl
  have hP9 := hP.sub (ws' := [(h0, .inr (11, [.ref sl, .ref walker_, .ref rd, .ref machine_, .ref trial_, .ref dk])), (rd, .inr (4, [.ref lenses_, .int 0, .int 0, .int 0, .int (-1), .int (-1), .ref tp, .ref names_, .ref quoted_, .ref links_, .ref walker2_, .int 0, .int 0, .int 0]))]) [0, 1] rfl
  have hD9 := hD.sub (ws' := [(h0, .inr (11, [.ref sl, .ref walker_, .ref rd, .ref machine_, .ref trial_, .ref dk])), (rd, .inr (4, [.ref lenses_, .int 0, .int 0, .int 0, .int (-1), .int (-1), .ref tp, .ref names_, .ref quoted_, .ref links_, .ref walker2_, .int 0, .int 0, .int 0]))]) [0, 1] (by decide) rfl
  exact W.aret (v := .null) hx hb hr (by first | exact Or.inl ⟨_, rfl⟩ | exact Or.inr ⟨_, rfl⟩) (Or.inl rfl) (fun t ht hW => ⟨⟨none, (), rfl, rfl, by rw [ht]; exact hP9, va_K.moved hW.alike hK9, hD9⟩, hS.F ht⟩) hS.2.2 dX11_setAt_20
def wk_repeatedOf : List Cond := .code yX11_repeatedOf cX11_repeatedOf 3 (some (.object "PutBack$Lens")) :: ([])
set_option maxHeartbeats 4000000 in
set_option maxRecDepth 100000 in
theorem k_repeatedOf (l : Launch) (dC : Nat → ClassId) (dI : Nat → Nat → Nat) (sz : Nat)  : Met l yX11_repeatedOf wk_repeatedOf ({ frames := 0, cells := 0, slots := 0, locals := 0 } : Room) (va_Pc [.null] (fun U => U.heap.size = sz ∧ va_P (dC, dI) cls [] U.heap ∧ va_K (dC, dI) cls [] U ∧ va_D (fun _ => True) [])) (va_Qq (fun (r : Option Nat) (_ : Unit) => r = none) (fun (_ : Unit) t => va_P (dC, dI) cls [] t.heap ∧ va_K (dC, dI) cls [] t ∧ va_D (va_A [] sz) []) (va_A [] sz)) 0 0 (va_A [] sz) := by
  refine Met.ofW (cc := cX11_repeatedOf) (maxL := 3) (ret := (some (.object "PutBack$Lens"))) (by decide) rfl ?_
  intro p e s m args below meth c s₁ B hml hv
  obtain ⟨rfl, hsz, hP, hK, hD0⟩ := hv
  have hx := B.exec
  have hb := B.bytes
  have hr := B.returns
  have hts := atoms_spec (ws := wk_repeatedOf) B.pre
  have hown : s.vm.findClass RX11 = some m.cls := findClass_of_methodNamed B.named
  have hlocks := B.notSynchronized
  subst hsz
  have hD := hD0.self (sz := s.heap.size)
  generalize hAe : va_A [] s.heap.size = A at hD ⊢
  have hA : ∀ q : Nat, s.heap.size ≤ q → A q := fun q h => by rw [← hAe]; exact Or.inr h
  have hP : va_P (dC, dI) cls [] s.heap := hP
  have hl := lv_entry ([.null]) (n := 3) (Nat.le_of_ble_eq_true rfl)
  rw [lg_entry_eq]
  generalize (lg_sl ([.null]) ++ List.replicate (3 - (lg_sl ([.null])).length) Slot.unset).toArray = ls at hl ⊢
  have hl : lv_has ls 3 [(0, .null)] := hl
  obtain ⟨H, hH⟩ : ∃ H : Heap, s.heap = H := ⟨_, rfl⟩
  rw [hH] at hP ⊢
  have hS : va_S A s.heap H [] := by rw [← hH]; exact va_S.rf
  refine lv_aload_nN hx hb dX11_repeatedOf_0 rfl (lv_at hl 0 rfl) ?_
  refine lv_astore_nN (lv' := [(1, .null), (0, .null)]) hx hb dX11_repeatedOf_1 rfl hl (by decide) rfl (fun ls hl => ?_)
  refine lv_iconst (v := 0) hx hb dX11_repeatedOf_2 (by decide) ?_
  refine lv_istore_n (lv' := [(2, .int 0), (1, .null), (0, .null)]) hx hb dX11_repeatedOf_3 rfl hl (by decide) rfl (fun ls hl => ?_)
  refine lv_iload_n hx hb dX11_repeatedOf_4 rfl (lv_at hl 0 rfl) ?_
  refine lv_bipush (v := 8) hx hb dX11_repeatedOf_5 (by decide) ?_
  refine lv_icmp_gt (tgt := 34) hx hb dX11_repeatedOf_7 (by decide) (fun c_1 => ?_) (fun c_1 => ?_)
  · exact (by revert c_1; decide : False).elim
  refine lv_aload_nN hx hb dX11_repeatedOf_10 rfl (lv_at hl 1 rfl) ?_
  refine lv_ifnullN (tgt := 34) hx hb dX11_repeatedOf_11 (by decide) ?_
  refine lv_aload_nN hx hb dX11_repeatedOf_34 rfl (lv_at hl 1 rfl) ?_
  refine lv_ifnullN (tgt := 60) hx hb dX11_repeatedOf_35 (by decide) ?_
  refine lv_null hx hb dX11_repeatedOf_60 ?_
  have hK9 := hK.sub (tys' := []) [] rfl
  have hP9 := hP.sub (ws' := []) [] rfl
  have hD9 := hD.sub (ws' := []) [] (by decide) rfl
  exact W.aret (v := .null) hx hb hr (by first | exact Or.inl ⟨_, rfl⟩ | exact Or.inr ⟨_, rfl⟩) (Or.inl rfl) (fun t ht hW => ⟨⟨none, (), rfl, rfl, by rw [ht]; exact hP9, va_K.moved hW.alike hK9, hD9⟩, hS.F ht⟩) hS.2.2 dX11_repeatedOf_61
def wk_fits : List Cond := .code yX11_fits cX11_fits 6 (some .int) :: ([.methodLink RX11 95 yX11_setAt, .instanceMethod yX11_setAt, .selects RX11 yX11_setAt yX11_setAt, .initialized RX11, .code yX11_setAt cX11_setAt 4 (some (.object "PutBack$TextSet")), .methodLink RX11 105 yX11_lensAt, .instanceMethod yX11_lensAt, .selects RX11 yX11_lensAt yX11_lensAt, .code yX11_lensAt cX11_lensAt 2 (some (.object "PutBack$Lens")), .fieldLink RX11 27 "PutBack" "reader" "LPutBack$Reader;", .fieldLink RX11 259 "PutBack$Reader" "told" "I", .methodLink RX11 74 yX11_slotAt, .instanceMethod yX11_slotAt, .selects RX11 yX11_slotAt yX11_slotAt, .code yX11_slotAt cX11_slotAt 2 (some (.object "PutBack$Text")), .fieldLink RX11 11 "PutBack" "slots" "[LPutBack$Text;"] ++ wsX40 ++ wsX110)
theorem ik_fits_RX4 : ∀ w ∈ u_ws RX4 TX4 14, w ∈ wk_fits := fun w h => List.mem_cons_of_mem _ (List.mem_append_left _ (List.mem_append_right _ h))
theorem ik_fits_RX11 : ∀ w ∈ u_ws RX11 TX11 6, w ∈ wk_fits := fun w h => List.mem_cons_of_mem _ (List.mem_append_right _ h)
theorem gk_fits_95g : GoodIn wk_fits wk_setAt := goodIn_r _ [5, 6, 7, 8, 4, 9, 10, 11, 17, 18, 19, 20, 21, 22, 23, 24, 25, 26, 27, 28, 29, 30, 31, 32, 33, 34, 35, 36] (by decide +kernel) (by decide +kernel)
theorem gk_fits_95 : GoodIn wk_fits (wsV RX11 95 RX11 yX11_setAt wk_setAt) := goodIn_app (goodIn_of _ (by decide +kernel)) gk_fits_95g
theorem gk_fits_74g : GoodIn wk_fits wk_slotAt := goodIn_r _ [15, 16, 31, 32, 33, 34, 35, 36] (by decide +kernel) (by decide +kernel)
theorem gk_fits_74 : GoodIn wk_fits (wsV RX11 74 RX11 yX11_slotAt wk_slotAt) := goodIn_app (goodIn_of _ (by decide +kernel)) gk_fits_74g
set_option maxHeartbeats 4000000 in
set_option maxRecDepth 100000 in
theorem k_fits (l : Launch) (dC : Nat → ClassId) (dI : Nat → Nat → Nat) (sz : Nat) (h0 : Nat) (v1 : Int32) (v2 : Int32) (v3 : Int32) (sl : Nat) (walker_ : Nat) (rd : Nat) (machine_ : Nat) (trial_ : Nat) (dk : Nat) (cT : ClassId) (fT : Nat → Option Nat) (lenses_ : Nat) (tp : Nat) (names_ : Nat) (quoted_ : Nat) (links_ : Nat) (walker2_ : Nat) (hf : ∀ i : Int32, inS i → ∃ t, fT i.toNatClampNeg = some t) : Met l yX11_fits wk_fits ({ frames := 2, cells := 0, slots := 0, locals := 44 } : Room) (va_Pc [.ref h0, .int v1, .int v2, .int v3] (fun U => U.heap.size = sz ∧ va_P (dC, dI) cls [(h0, .inr (11, [.ref sl, .ref walker_, .ref rd, .ref machine_, .ref trial_, .ref dk])), (sl, .inl (cT, 8, .inr (.inr (.inr (.inr fT))))), (rd, .inr (4, [.ref lenses_, .int 0, .int 0, .int 0, .int (-1), .int (-1), .ref tp, .ref names_, .ref quoted_, .ref links_, .ref walker2_, .int 0, .int 0, .int 0]))] U.heap ∧ va_K (dC, dI) cls [(cT, .object RX6)] U ∧ va_D (fun _ => True) [(h0, .inr (11, [.ref sl, .ref walker_, .ref rd, .ref machine_, .ref trial_, .ref dk])), (sl, .inl (cT, 8, .inr (.inr (.inr (.inr fT))))), (rd, .inr (4, [.ref lenses_, .int 0, .int 0, .int 0, .int (-1), .int (-1), .ref tp, .ref names_, .ref quoted_, .ref links_, .ref walker2_, .int 0, .int 0, .int 0]))])) (va_Qi (fun (r : Int32) (_ : Unit) => r = -1) (fun (_ : Unit) t => va_P (dC, dI) cls [] t.heap ∧ va_K (dC, dI) cls [(cT, .object RX6)] t ∧ va_D (va_A [(h0, .inr (11, [.ref sl, .ref walker_, .ref rd, .ref machine_, .ref trial_, .ref dk])), (sl, .inl (cT, 8, .inr (.inr (.inr (.inr fT))))), (rd, .inr (4, [.ref lenses_, .int 0, .int 0, .int 0, .int (-1), .int (-1), .ref tp, .ref names_, .ref quoted_, .ref links_, .ref walker2_, .int 0, .int 0, .int 0]))] sz) []) (va_A [(h0, .inr (11, [.ref sl, .ref walker_, .ref rd, .ref machine_, .ref trial_, .ref dk])), (sl, .inl (cT, 8, .inr (.inr (.inr (.inr fT))))), (rd, .inr (4, [.ref lenses_, .int 0, .int 0, .int 0, .int (-1), .int (-1), .ref tp, .ref names_, .ref quoted_, .ref links_, .ref walker2_, .int 0, .int 0, .int 0]))] sz)) 0 0 (va_A [(h0, .inr (11, [.ref sl, .ref walker_, .ref rd, .ref machine_, .ref trial_, .ref dk])), (sl, .inl (cT, 8, .inr (.inr (.inr (.inr fT))))), (rd, .inr (4, [.ref lenses_, .int 0, .int 0, .int 0, .int (-1), .int (-1), .ref tp, .ref names_, .ref quoted_, .ref links_, .ref walker2_, .int 0, .int 0, .int 0]))] sz) := by
  refine Met.ofW (cc := cX11_fits) (maxL := 6) (ret := (some .int)) (by decide) rfl ?_
  intro p e s m args below meth c s₁ B hml hv
  obtain ⟨rfl, hsz, hP, hK, hD0⟩ := hv
  have hx := B.exec
  have hb := B.bytes
  have hr := B.returns
  have hts := atoms_spec (ws := wk_fits) B.pre
  have hown : s.vm.findClass RX11 = some m.cls := findClass_of_methodNamed B.named
  have hlocks := B.notSynchronized
  subst hsz
  have hD := hD0.self (sz := s.heap.size)
  generalize hAe : va_A [(h0, .inr (11, [.ref sl, .ref walker_, .ref rd, .ref machine_, .ref trial_, .ref dk])), (sl, .inl (cT, 8, .inr (.inr (.inr (.inr fT))))), (rd, .inr (4, [.ref lenses_, .int 0, .int 0, .int 0, .int (-1), .int (-1), .ref tp, .ref names_, .ref quoted_, .ref links_, .ref walker2_, .int 0, .int 0, .int 0]))] s.heap.size = A at hD ⊢
  have hA : ∀ q : Nat, s.heap.size ≤ q → A q := fun q h => by rw [← hAe]; exact Or.inr h
  have hP : va_P (dC, dI) cls [(h0, .inr (11, [.ref sl, .ref walker_, .ref rd, .ref machine_, .ref trial_, .ref dk])), (sl, .inl (cT, 8, .inr (.inr (.inr (.inr fT))))), (rd, .inr (4, [.ref lenses_, .int 0, .int 0, .int 0, .int (-1), .int (-1), .ref tp, .ref names_, .ref quoted_, .ref links_, .ref walker2_, .int 0, .int 0, .int 0]))] s.heap := hP
  have hl := lv_entry ([.ref h0, .int v1, .int v2, .int v3]) (n := 6) (Nat.le_of_ble_eq_true rfl)
  rw [lg_entry_eq]
  generalize (lg_sl ([.ref h0, .int v1, .int v2, .int v3]) ++ List.replicate (6 - (lg_sl ([.ref h0, .int v1, .int v2, .int v3])).length) Slot.unset).toArray = ls at hl ⊢
  have hl : lv_has ls 6 [(0, .ref h0), (1, .int v1), (2, .int v2), (3, .int v3)] := hl
  obtain ⟨H, hH⟩ : ∃ H : Heap, s.heap = H := ⟨_, rfl⟩
  rw [hH] at hP ⊢
  have hS : va_S A s.heap H [] := by rw [← hH]; exact va_S.rf
  refine lv_aload_n hx hb dX11_fits_0 rfl (lv_at hl 0 rfl) ?_
  refine lv_iload_n hx hb dX11_fits_1 rfl (lv_at hl 1 rfl) ?_
  refine lv_iload_n hx hb dX11_fits_2 rfl (lv_at hl 2 rfl) ?_
  have hPc := hP.sub (ws' := [(h0, .inr (11, [.ref sl, .ref walker_, .ref rd, .ref machine_, .ref trial_, .ref dk])), (rd, .inr (4, [.ref lenses_, .int 0, .int 0, .int 0, .int (-1), .int (-1), .ref tp, .ref names_, .ref quoted_, .ref links_, .ref walker2_, .int 0, .int 0, .int 0]))]) [0, 2] rfl
  have hDc := hD.sub (ws' := [(h0, .inr (11, [.ref sl, .ref walker_, .ref rd, .ref machine_, .ref trial_, .ref dk])), (rd, .inr (4, [.ref lenses_, .int 0, .int 0, .int 0, .int (-1), .int (-1), .ref tp, .ref names_, .ref quoted_, .ref links_, .ref walker2_, .int 0, .int 0, .int 0]))]) [0, 2] (by decide) rfl
  have hKc := hK.sub (tys' := []) [] rfl
  have hFc := va_free (wc := [(h0, .inr (11, [.ref sl, .ref walker_, .ref rd, .ref machine_, .ref trial_, .ref dk])), (rd, .inr (4, [.ref lenses_, .int 0, .int 0, .int 0, .int (-1), .int (-1), .ref tp, .ref names_, .ref quoted_, .ref links_, .ref walker2_, .int 0, .int 0, .int 0]))]) hD hS hA [0, 2] rfl
  refine va_callq (va_runV (As := [.int v1, .int v2]) (rest := []) ⟨hx, hb, hml, hown, hts⟩ (k_setAt l dC dI H.size h0 v1 v2 sl walker_ rd machine_ trial_ dk lenses_ tp names_ quoted_ links_ walker2_) (cwV 2 hts gk_fits_95 rfl rfl rfl (by decide +kernel) ⟨Nat.le_of_ble_eq_true rfl, Nat.le_of_ble_eq_true rfl⟩) ⟨fun a U g mk q => by obtain ⟨q0, q1, qP, qK, qD⟩ := q; exact ⟨q0, q1, qP, va_K.moved (u := U) (U := U.calling g mk a) (Vm.Alike.refl U.vm) qK, qD⟩, va_recv hK hP (ci := 11) (q0 := 0) rfl rfl, fun U hU hW => ⟨rfl, by rw [hU], by rw [hU]; exact hPc, va_K.moved hW.alike hKc, hDc.weaken (fun _ _ _ _ => trivial)⟩⟩ rfl rfl hl.1 rfl (lv_room (Nat.le_of_ble_eq_true rfl)) dX11_fits_3 ⟨Nat.le_of_ble_eq_true rfl, Nat.le_of_ble_eq_true rfl⟩) hS (fun q _ h => hFc q h) hFc (fun r_2 u t H1 locs ht hvm hw hB hz1 hk1 hS => ?_)
  obtain ⟨hP1, hK1, hD1⟩ := hB
  rw [ht] at hP1
  try dsimp only at hw
  obtain ⟨hP, hD⟩ := va_join (wr := [(sl, .inl (cT, 8, .inr (.inr (.inr (.inr fT)))))]) (w1 := [(h0, .inr (11, [.ref sl, .ref walker_, .ref rd, .ref machine_, .ref trial_, .ref dk])), (rd, .inr (4, [.ref lenses_, .int 0, .int 0, .int 0, .int (-1), .int (-1), .ref tp, .ref names_, .ref quoted_, .ref links_, .ref walker2_, .int 0, .int 0, .int 0]))]) hP hD [0, 2] [1] rfl rfl (by decide) (by decide) hk1 hFc hP1 hD1
  clear hk1 hz1 hPc hDc hFc hP1 hD1 hK1 hKc
  generalize H1 = H at hP hS ⊢
  have hP : va_P (dC, dI) cls [(sl, .inl (cT, 8, .inr (.inr (.inr (.inr fT))))), (h0, .inr (11, [.ref sl, .ref walker_, .ref rd, .ref machine_, .ref trial_, .ref dk])), (rd, .inr (4, [.ref lenses_, .int 0, .int 0, .int 0, .int (-1), .int (-1), .ref tp, .ref names_, .ref quoted_, .ref links_, .ref walker2_, .int 0, .int 0, .int 0]))] H := hP
  have hD : va_D A [(sl, .inl (cT, 8, .inr (.inr (.inr (.inr fT))))), (h0, .inr (11, [.ref sl, .ref walker_, .ref rd, .ref machine_, .ref trial_, .ref dk])), (rd, .inr (4, [.ref lenses_, .int 0, .int 0, .int 0, .int (-1), .int (-1), .ref tp, .ref names_, .ref quoted_, .ref links_, .ref walker2_, .int 0, .int 0, .int 0]))] := hD
  obtain rfl := hw
  refine W.eq (g2 := F0 m 6 ls [.null]) rfl ?_
  refine lv_astoreN (lv' := [(4, .null), (0, .ref h0), (1, .int v1), (2, .int v2), (3, .int v3)]) hx hb dX11_fits_6 hl (by decide) rfl (fun ls hl => ?_)
  refine lv_aload_n hx hb dX11_fits_8 rfl (lv_at hl 1 rfl) ?_
  refine lv_iload_n hx hb dX11_fits_9 rfl (lv_at hl 4 rfl) ?_
  have hPc := hP.sub (ws' := [(h0, .inr (11, [.ref sl, .ref walker_, .ref rd, .ref machine_, .ref trial_, .ref dk])), (sl, .inl (cT, 8, .inr (.inr (.inr (.inr fT)))))]) [1, 0] rfl
  have hDc := hD.sub (ws' := [(h0, .inr (11, [.ref sl, .ref walker_, .ref rd, .ref machine_, .ref trial_, .ref dk])), (sl, .inl (cT, 8, .inr (.inr (.inr (.inr fT)))))]) [1, 0] (by decide) rfl
  have hKc := hK.sub (tys' := [(cT, .object RX6)]) [0] rfl
  have hFc := va_free (wc := [(h0, .inr (11, [.ref sl, .ref walker_, .ref rd, .ref machine_, .ref trial_, .ref dk])), (sl, .inl (cT, 8, .inr (.inr (.inr (.inr fT)))))]) hD hS hA [1, 0] rfl
  refine va_callq (va_runV (As := [.int v3]) (rest := []) ⟨hx, hb, hml, hown, hts⟩ (k_slotAt l dC dI H.size h0 v3 sl walker_ rd machine_ trial_ dk cT fT hf) (cwV 1 hts gk_fits_74 rfl rfl rfl (by decide +kernel) ⟨Nat.le_of_ble_eq_true rfl, Nat.le_of_ble_eq_true rfl⟩) ⟨fun a U g mk q => by obtain ⟨q0, q1, qP, qK, qD⟩ := q; exact ⟨q0, q1, qP, va_K.moved (u := U) (U := U.calling g mk a) (Vm.Alike.refl U.vm) qK, qD⟩, va_recv hK hP (ci := 11) (q0 := 1) rfl rfl, fun U hU hW => ⟨rfl, by rw [hU], by rw [hU]; exact hPc, va_K.moved hW.alike hKc, hDc.weaken (fun _ _ _ _ => trivial)⟩⟩ rfl rfl hl.1 rfl (lv_room (Nat.le_of_ble_eq_true rfl)) dX11_fits_10 ⟨Nat.le_of_ble_eq_true rfl, Nat.le_of_ble_eq_true rfl⟩) hS (fun q _ h => hFc q h) hFc (fun r_4 u t H1 locs ht hvm hw hB hz1 hk1 hS => ?_)
  obtain ⟨hP1, hK1, hD1⟩ := hB
  rw [ht] at hP1
  try dsimp only at hw
  obtain ⟨hP, hD⟩ := va_join (wr := [(rd, .inr (4, [.ref lenses_, .int 0, .int 0, .int 0, .int (-1), .int (-1), .ref tp, .ref names_, .ref quoted_, .ref links_, .ref walker2_, .int 0, .int 0, .int 0]))]) (w1 := [(h0, .inr (11, [.ref sl, .ref walker_, .ref rd, .ref machine_, .ref trial_, .ref dk])), (sl, .inl (cT, 8, .inr (.inr (.inr (.inr fT)))))]) hP hD [1, 0] [2] rfl rfl (by decide) (by decide) hk1 hFc hP1 hD1
  clear hk1 hz1 hPc hDc hFc hP1 hD1 hK1 hKc
  generalize H1 = H at hP hS ⊢
  have hP : va_P (dC, dI) cls [(rd, .inr (4, [.ref lenses_, .int 0, .int 0, .int 0, .int (-1), .int (-1), .ref tp, .ref names_, .ref quoted_, .ref links_, .ref walker2_, .int 0, .int 0, .int 0])), (h0, .inr (11, [.ref sl, .ref walker_, .ref rd, .ref machine_, .ref trial_, .ref dk])), (sl, .inl (cT, 8, .inr (.inr (.inr (.inr fT)))))] H := hP
  have hD : va_D A [(rd, .inr (4, [.ref lenses_, .int 0, .int 0, .int 0, .int (-1), .int (-1), .ref tp, .ref names_, .ref quoted_, .ref links_, .ref walker2_, .int 0, .int 0, .int 0])), (h0, .inr (11, [.ref sl, .ref walker_, .ref rd, .ref machine_, .ref trial_, .ref dk])), (sl, .inl (cT, 8, .inr (.inr (.inr (.inr fT)))))] := hD
  rcases hw with ⟨f_5, rfl⟩ | ⟨f_5, rfl⟩
  · skip
    obtain ⟨t_6, et_6⟩ := hf v3 f_5
    refine W.eq (g2 := F0 m 13 ls [.ref t_6]) (by rw [et_6]; rfl) ?_
    refine lv_astore (lv' := [(5, .ref t_6), (4, .null), (0, .ref h0), (1, .int v1), (2, .int v2), (3, .int v3)]) hx hb dX11_fits_13 hl (by decide) rfl (fun ls hl => ?_)
    refine lv_aloadN hx hb dX11_fits_15 (lv_at hl 1 rfl) ?_
    refine lv_ifnullN (tgt := 25) hx hb dX11_fits_17 (by decide) ?_
    refine lv_iconst (v := (-1)) hx hb dX11_fits_25 (by decide) ?_
    have hK9 := hK.sub (tys' := [(cT, .object RX6)]) [0] rfl
    have hP9 := hP.sub (ws' := []) [] rfl
    have hD9 := hD.sub (ws' := []) [] (by decide) rfl
    exact W.iret (v := (-1)) hx hb hr (fun t ht hW => ⟨⟨(-1), (), rfl, rfl, by rw [ht]; exact hP9, va_K.moved hW.alike hK9, hD9⟩, hS.F ht⟩) hS.2.2 dX11_fits_26
  · skip
    refine W.eq (g2 := F0 m 13 ls [.null]) rfl ?_
    refine lv_astoreN (lv' := [(5, .null), (4, .null), (0, .ref h0), (1, .int v1), (2, .int v2), (3, .int v3)]) hx hb dX11_fits_13 hl (by decide) rfl (fun ls hl => ?_)
    refine lv_aloadN hx hb dX11_fits_15 (lv_at hl 1 rfl) ?_
    refine lv_ifnullN (tgt := 25) hx hb dX11_fits_17 (by decide) ?_
    refine lv_iconst (v := (-1)) hx hb dX11_fits_25 (by decide) ?_
    have hK9 := hK.sub (tys' := [(cT, .object RX6)]) [0] rfl
    have hP9 := hP.sub (ws' := []) [] rfl
    have hD9 := hD.sub (ws' := []) [] (by decide) rfl
    exact W.iret (v := (-1)) hx hb hr (fun t ht hW => ⟨⟨(-1), (), rfl, rfl, by rw [ht]; exact hP9, va_K.moved hW.alike hK9, hD9⟩, hS.F ht⟩) hS.2.2 dX11_fits_26
def wk_get : List Cond := .code yX11_get cX11_get 7 (some .int) :: ([.methodLink RX11 105 yX11_lensAt, .instanceMethod yX11_lensAt, .selects RX11 yX11_lensAt yX11_lensAt, .initialized RX11, .code yX11_lensAt cX11_lensAt 2 (some (.object "PutBack$Lens")), .fieldLink RX11 27 "PutBack" "reader" "LPutBack$Reader;", .fieldLink RX11 259 "PutBack$Reader" "told" "I", .methodLink RX11 74 yX11_slotAt, .instanceMethod yX11_slotAt, .selects RX11 yX11_slotAt yX11_slotAt, .code yX11_slotAt cX11_slotAt 2 (some (.object "PutBack$Text")), .fieldLink RX11 11 "PutBack" "slots" "[LPutBack$Text;"] ++ wsX40 ++ wsX110)
theorem ik_get_RX4 : ∀ w ∈ u_ws RX4 TX4 14, w ∈ wk_get := fun w h => List.mem_cons_of_mem _ (List.mem_append_left _ (List.mem_append_right _ h))
theorem ik_get_RX11 : ∀ w ∈ u_ws RX11 TX11 6, w ∈ wk_get := fun w h => List.mem_cons_of_mem _ (List.mem_append_right _ h)
theorem gk_get_105g : GoodIn wk_get wk_lensAt := goodIn_r _ [5, 6, 7, 13, 14, 15, 16, 17, 18, 19, 20, 21, 22, 23, 24, 25, 26, 27, 28, 29, 30, 31, 32] (by decide +kernel) (by decide +kernel)
theorem gk_get_105 : GoodIn wk_get (wsV RX11 105 RX11 yX11_lensAt wk_lensAt) := goodIn_app (goodIn_of _ (by decide +kernel)) gk_get_105g
theorem gk_get_74g : GoodIn wk_get wk_slotAt := goodIn_r _ [11, 12, 27, 28, 29, 30, 31, 32] (by decide +kernel) (by decide +kernel)
theorem gk_get_74 : GoodIn wk_get (wsV RX11 74 RX11 yX11_slotAt wk_slotAt) := goodIn_app (goodIn_of _ (by decide +kernel)) gk_get_74g
set_option maxHeartbeats 4000000 in
set_option maxRecDepth 100000 in
theorem k_get (l : Launch) (dC : Nat → ClassId) (dI : Nat → Nat → Nat) (sz : Nat) (h0 : Nat) (v1 : Int32) (v2 : Int32) (v3 : Int32) (sl : Nat) (walker_ : Nat) (rd : Nat) (machine_ : Nat) (trial_ : Nat) (dk : Nat) (cT : ClassId) (fT : Nat → Option Nat) (lenses_ : Nat) (tp : Nat) (names_ : Nat) (quoted_ : Nat) (links_ : Nat) (walker2_ : Nat) (hf : ∀ i : Int32, inS i → ∃ t, fT i.toNatClampNeg = some t) : Met l yX11_get wk_get ({ frames := 1, cells := 0, slots := 0, locals := 21 } : Room) (va_Pc [.ref h0, .int v1, .int v2, .int v3] (fun U => U.heap.size = sz ∧ va_P (dC, dI) cls [(h0, .inr (11, [.ref sl, .ref walker_, .ref rd, .ref machine_, .ref trial_, .ref dk])), (sl, .inl (cT, 8, .inr (.inr (.inr (.inr fT))))), (rd, .inr (4, [.ref lenses_, .int 0, .int 0, .int 0, .int (-1), .int (-1), .ref tp, .ref names_, .ref quoted_, .ref links_, .ref walker2_, .int 0, .int 0, .int 0]))] U.heap ∧ va_K (dC, dI) cls [(cT, .object RX6)] U ∧ va_D (fun _ => True) [(h0, .inr (11, [.ref sl, .ref walker_, .ref rd, .ref machine_, .ref trial_, .ref dk])), (sl, .inl (cT, 8, .inr (.inr (.inr (.inr fT))))), (rd, .inr (4, [.ref lenses_, .int 0, .int 0, .int 0, .int (-1), .int (-1), .ref tp, .ref names_, .ref quoted_, .ref links_, .ref walker2_, .int 0, .int 0, .int 0]))])) (va_Qi (fun (r : Int32) (_ : Unit) => r = -1) (fun (_ : Unit) t => va_P (dC, dI) cls [] t.heap ∧ va_K (dC, dI) cls [(cT, .object RX6)] t ∧ va_D (va_A [(h0, .inr (11, [.ref sl, .ref walker_, .ref rd, .ref machine_, .ref trial_, .ref dk])), (sl, .inl (cT, 8, .inr (.inr (.inr (.inr fT))))), (rd, .inr (4, [.ref lenses_, .int 0, .int 0, .int 0, .int (-1), .int (-1), .ref tp, .ref names_, .ref quoted_, .ref links_, .ref walker2_, .int 0, .int 0, .int 0]))] sz) []) (va_A [(h0, .inr (11, [.ref sl, .ref walker_, .ref rd, .ref machine_, .ref trial_, .ref dk])), (sl, .inl (cT, 8, .inr (.inr (.inr (.inr fT))))), (rd, .inr (4, [.ref lenses_, .int 0, .int 0, .int 0, .int (-1), .int (-1), .ref tp, .ref names_, .ref quoted_, .ref links_, .ref walker2_, .int 0, .int 0, .int 0]))] sz)) 0 0 (va_A [(h0, .inr (11, [.ref sl, .ref walker_, .ref rd, .ref machine_, .ref trial_, .ref dk])), (sl, .inl (cT, 8, .inr (.inr (.inr (.inr fT))))), (rd, .inr (4, [.ref lenses_, .int 0, .int 0, .int 0, .int (-1), .int (-1), .ref tp, .ref names_, .ref quoted_, .ref links_, .ref walker2_, .int 0, .int 0, .int 0]))] sz) := by
  refine Met.ofW (cc := cX11_get) (maxL := 7) (ret := (some .int)) (by decide) rfl ?_
  intro p e s m args below meth c s₁ B hml hv
  obtain ⟨rfl, hsz, hP, hK, hD0⟩ := hv
  have hx := B.exec
  have hb := B.bytes
  have hr := B.returns
  have hts := atoms_spec (ws := wk_get) B.pre
  have hown : s.vm.findClass RX11 = some m.cls := findClass_of_methodNamed B.named
  have hlocks := B.notSynchronized
  subst hsz
  have hD := hD0.self (sz := s.heap.size)
  generalize hAe : va_A [(h0, .inr (11, [.ref sl, .ref walker_, .ref rd, .ref machine_, .ref trial_, .ref dk])), (sl, .inl (cT, 8, .inr (.inr (.inr (.inr fT))))), (rd, .inr (4, [.ref lenses_, .int 0, .int 0, .int 0, .int (-1), .int (-1), .ref tp, .ref names_, .ref quoted_, .ref links_, .ref walker2_, .int 0, .int 0, .int 0]))] s.heap.size = A at hD ⊢
  have hA : ∀ q : Nat, s.heap.size ≤ q → A q := fun q h => by rw [← hAe]; exact Or.inr h
  have hP : va_P (dC, dI) cls [(h0, .inr (11, [.ref sl, .ref walker_, .ref rd, .ref machine_, .ref trial_, .ref dk])), (sl, .inl (cT, 8, .inr (.inr (.inr (.inr fT))))), (rd, .inr (4, [.ref lenses_, .int 0, .int 0, .int 0, .int (-1), .int (-1), .ref tp, .ref names_, .ref quoted_, .ref links_, .ref walker2_, .int 0, .int 0, .int 0]))] s.heap := hP
  have hl := lv_entry ([.ref h0, .int v1, .int v2, .int v3]) (n := 7) (Nat.le_of_ble_eq_true rfl)
  rw [lg_entry_eq]
  generalize (lg_sl ([.ref h0, .int v1, .int v2, .int v3]) ++ List.replicate (7 - (lg_sl ([.ref h0, .int v1, .int v2, .int v3])).length) Slot.unset).toArray = ls at hl ⊢
  have hl : lv_has ls 7 [(0, .ref h0), (1, .int v1), (2, .int v2), (3, .int v3)] := hl
  obtain ⟨H, hH⟩ : ∃ H : Heap, s.heap = H := ⟨_, rfl⟩
  rw [hH] at hP ⊢
  have hS : va_S A s.heap H [] := by rw [← hH]; exact va_S.rf
  refine lv_aload_n hx hb dX11_get_0 rfl (lv_at hl 0 rfl) ?_
  refine lv_iload_n hx hb dX11_get_1 rfl (lv_at hl 1 rfl) ?_
  have hPc := hP.sub (ws' := [(h0, .inr (11, [.ref sl, .ref walker_, .ref rd, .ref machine_, .ref trial_, .ref dk])), (rd, .inr (4, [.ref lenses_, .int 0, .int 0, .int 0, .int (-1), .int (-1), .ref tp, .ref names_, .ref quoted_, .ref links_, .ref walker2_, .int 0, .int 0, .int 0]))]) [0, 2] rfl
  have hDc := hD.sub (ws' := [(h0, .inr (11, [.ref sl, .ref walker_, .ref rd, .ref machine_, .ref trial_, .ref dk])), (rd, .inr (4, [.ref lenses_, .int 0, .int 0, .int 0, .int (-1), .int (-1), .ref tp, .ref names_, .ref quoted_, .ref links_, .ref walker2_, .int 0, .int 0, .int 0]))]) [0, 2] (by decide) rfl
  have hKc := hK.sub (tys' := []) [] rfl
  have hFc := va_free (wc := [(h0, .inr (11, [.ref sl, .ref walker_, .ref rd, .ref machine_, .ref trial_, .ref dk])), (rd, .inr (4, [.ref lenses_, .int 0, .int 0, .int 0, .int (-1), .int (-1), .ref tp, .ref names_, .ref quoted_, .ref links_, .ref walker2_, .int 0, .int 0, .int 0]))]) hD hS hA [0, 2] rfl
  refine va_callq (va_runV (As := [.int v1]) (rest := []) ⟨hx, hb, hml, hown, hts⟩ (k_lensAt l dC dI H.size h0 v1 sl walker_ rd machine_ trial_ dk lenses_ tp names_ quoted_ links_ walker2_) (cwV 1 hts gk_get_105 rfl rfl rfl (by decide +kernel) ⟨Nat.le_of_ble_eq_true rfl, Nat.le_of_ble_eq_true rfl⟩) ⟨fun a U g mk q => by obtain ⟨q0, q1, qP, qK, qD⟩ := q; exact ⟨q0, q1, qP, va_K.moved (u := U) (U := U.calling g mk a) (Vm.Alike.refl U.vm) qK, qD⟩, va_recv hK hP (ci := 11) (q0 := 0) rfl rfl, fun U hU hW => ⟨rfl, by rw [hU], by rw [hU]; exact hPc, va_K.moved hW.alike hKc, hDc.weaken (fun _ _ _ _ => trivial)⟩⟩ rfl rfl hl.1 rfl (lv_room (Nat.le_of_ble_eq_true rfl)) dX11_get_2 ⟨Nat.le_of_ble_eq_true rfl, Nat.le_of_ble_eq_true rfl⟩) hS (fun q _ h => hFc q h) hFc (fun r_2 u t H1 locs ht hvm hw hB hz1 hk1 hS => ?_)
  obtain ⟨hP1, hK1, hD1⟩ := hB
  rw [ht] at hP1
  try dsimp only at hw
  obtain ⟨hP, hD⟩ := va_join (wr := [(sl, .inl (cT, 8, .inr (.inr (.inr (.inr fT)))))]) (w1 := [(h0, .inr (11, [.ref sl, .ref walker_, .ref rd, .ref machine_, .ref trial_, .ref dk])), (rd, .inr (4, [.ref lenses_, .int 0, .int 0, .int 0, .int (-1), .int (-1), .ref tp, .ref names_, .ref quoted_, .ref links_, .ref walker2_, .int 0, .int 0, .int 0]))]) hP hD [0, 2] [1] rfl rfl (by decide) (by decide) hk1 hFc hP1 hD1
  clear hk1 hz1 hPc hDc hFc hP1 hD1 hK1 hKc
  generalize H1 = H at hP hS ⊢
  have hP : va_P (dC, dI) cls [(sl, .inl (cT, 8, .inr (.inr (.inr (.inr fT))))), (h0, .inr (11, [.ref sl, .ref walker_, .ref rd, .ref machine_, .ref trial_, .ref dk])), (rd, .inr (4, [.ref lenses_, .int 0, .int 0, .int 0, .int (-1), .int (-1), .ref tp, .ref names_, .ref quoted_, .ref links_, .ref walker2_, .int 0, .int 0, .int 0]))] H := hP
  have hD : va_D A [(sl, .inl (cT, 8, .inr (.inr (.inr (.inr fT))))), (h0, .inr (11, [.ref sl, .ref walker_, .ref rd, .ref machine_, .ref trial_, .ref dk])), (rd, .inr (4, [.ref lenses_, .int 0, .int 0, .int 0, .int (-1), .int (-1), .ref tp, .ref names_, .ref quoted_, .ref links_, .ref walker2_, .int 0, .int 0, .int 0]))] := hD
  obtain rfl := hw
  refine W.eq (g2 := F0 m 5 ls [.null]) rfl ?_
  refine lv_astoreN (lv' := [(4, .null), (0, .ref h0), (1, .int v1), (2, .int v2), (3, .int v3)]) hx hb dX11_get_5 hl (by decide) rfl (fun ls hl => ?_)
  refine lv_aload_n hx hb dX11_get_7 rfl (lv_at hl 1 rfl) ?_
  refine lv_iload_n hx hb dX11_get_8 rfl (lv_at hl 3 rfl) ?_
  have hPc := hP.sub (ws' := [(h0, .inr (11, [.ref sl, .ref walker_, .ref rd, .ref machine_, .ref trial_, .ref dk])), (sl, .inl (cT, 8, .inr (.inr (.inr (.inr fT)))))]) [1, 0] rfl
  have hDc := hD.sub (ws' := [(h0, .inr (11, [.ref sl, .ref walker_, .ref rd, .ref machine_, .ref trial_, .ref dk])), (sl, .inl (cT, 8, .inr (.inr (.inr (.inr fT)))))]) [1, 0] (by decide) rfl
  have hKc := hK.sub (tys' := [(cT, .object RX6)]) [0] rfl
  have hFc := va_free (wc := [(h0, .inr (11, [.ref sl, .ref walker_, .ref rd, .ref machine_, .ref trial_, .ref dk])), (sl, .inl (cT, 8, .inr (.inr (.inr (.inr fT)))))]) hD hS hA [1, 0] rfl
  refine va_callq (va_runV (As := [.int v2]) (rest := []) ⟨hx, hb, hml, hown, hts⟩ (k_slotAt l dC dI H.size h0 v2 sl walker_ rd machine_ trial_ dk cT fT hf) (cwV 1 hts gk_get_74 rfl rfl rfl (by decide +kernel) ⟨Nat.le_of_ble_eq_true rfl, Nat.le_of_ble_eq_true rfl⟩) ⟨fun a U g mk q => by obtain ⟨q0, q1, qP, qK, qD⟩ := q; exact ⟨q0, q1, qP, va_K.moved (u := U) (U := U.calling g mk a) (Vm.Alike.refl U.vm) qK, qD⟩, va_recv hK hP (ci := 11) (q0 := 1) rfl rfl, fun U hU hW => ⟨rfl, by rw [hU], by rw [hU]; exact hPc, va_K.moved hW.alike hKc, hDc.weaken (fun _ _ _ _ => trivial)⟩⟩ rfl rfl hl.1 rfl (lv_room (Nat.le_of_ble_eq_true rfl)) dX11_get_9 ⟨Nat.le_of_ble_eq_true rfl, Nat.le_of_ble_eq_true rfl⟩) hS (fun q _ h => hFc q h) hFc (fun r_4 u t H1 locs ht hvm hw hB hz1 hk1 hS => ?_)
  obtain ⟨hP1, hK1, hD1⟩ := hB
  rw [ht] at hP1
  try dsimp only at hw
  obtain ⟨hP, hD⟩ := va_join (wr := [(rd, .inr (4, [.ref lenses_, .int 0, .int 0, .int 0, .int (-1), .int (-1), .ref tp, .ref names_, .ref quoted_, .ref links_, .ref walker2_, .int 0, .int 0, .int 0]))]) (w1 := [(h0, .inr (11, [.ref sl, .ref walker_, .ref rd, .ref machine_, .ref trial_, .ref dk])), (sl, .inl (cT, 8, .inr (.inr (.inr (.inr fT)))))]) hP hD [1, 0] [2] rfl rfl (by decide) (by decide) hk1 hFc hP1 hD1
  clear hk1 hz1 hPc hDc hFc hP1 hD1 hK1 hKc
  generalize H1 = H at hP hS ⊢
  have hP : va_P (dC, dI) cls [(rd, .inr (4, [.ref lenses_, .int 0, .int 0, .int 0, .int (-1), .int (-1), .ref tp, .ref names_, .ref quoted_, .ref links_, .ref walker2_, .int 0, .int 0, .int 0])), (h0, .inr (11, [.ref sl, .ref walker_, .ref rd, .ref machine_, .ref trial_, .ref dk])), (sl, .inl (cT, 8, .inr (.inr (.inr (.inr fT)))))] H := hP
  have hD : va_D A [(rd, .inr (4, [.ref lenses_, .int 0, .int 0, .int 0, .int (-1), .int (-1), .ref tp, .ref names_, .ref quoted_, .ref links_, .ref walker2_, .int 0, .int 0, .int 0])), (h0, .inr (11, [.ref sl, .ref walker_, .ref rd, .ref machine_, .ref trial_, .ref dk])), (sl, .inl (cT, 8, .inr (.inr (.inr (.inr fT)))))] := hD
  rcases hw with ⟨f_5, rfl⟩ | ⟨f_5, rfl⟩
  · skip
    obtain ⟨t_6, et_6⟩ := hf v2 f_5
    refine W.eq (g2 := F0 m 12 ls [.ref t_6]) (by rw [et_6]; rfl) ?_
    refine lv_astore (lv' := [(5, .ref t_6), (4, .null), (0, .ref h0), (1, .int v1), (2, .int v2), (3, .int v3)]) hx hb dX11_get_12 hl (by decide) rfl (fun ls hl => ?_)
    refine lv_aload_n hx hb dX11_get_14 rfl (lv_at hl 2 rfl) ?_
    refine lv_iload_n hx hb dX11_get_15 rfl (lv_at hl 5 rfl) ?_
    have hPc := hP.sub (ws' := [(h0, .inr (11, [.ref sl, .ref walker_, .ref rd, .ref machine_, .ref trial_, .ref dk])), (sl, .inl (cT, 8, .inr (.inr (.inr (.inr fT)))))]) [1, 2] rfl
    have hDc := hD.sub (ws' := [(h0, .inr (11, [.ref sl, .ref walker_, .ref rd, .ref machine_, .ref trial_, .ref dk])), (sl, .inl (cT, 8, .inr (.inr (.inr (.inr fT)))))]) [1, 2] (by decide) rfl
    have hKc := hK.sub (tys' := [(cT, .object RX6)]) [0] rfl
    have hFc := va_free (wc := [(h0, .inr (11, [.ref sl, .ref walker_, .ref rd, .ref machine_, .ref trial_, .ref dk])), (sl, .inl (cT, 8, .inr (.inr (.inr (.inr fT)))))]) hD hS hA [1, 2] rfl
    refine va_callq (va_runV (As := [.int v3]) (rest := []) ⟨hx, hb, hml, hown, hts⟩ (k_slotAt l dC dI H.size h0 v3 sl walker_ rd machine_ trial_ dk cT fT hf) (cwV 1 hts gk_get_74 rfl rfl rfl (by decide +kernel) ⟨Nat.le_of_ble_eq_true rfl, Nat.le_of_ble_eq_true rfl⟩) ⟨fun a U g mk q => by obtain ⟨q0, q1, qP, qK, qD⟩ := q; exact ⟨q0, q1, qP, va_K.moved (u := U) (U := U.calling g mk a) (Vm.Alike.refl U.vm) qK, qD⟩, va_recv hK hP (ci := 11) (q0 := 1) rfl rfl, fun U hU hW => ⟨rfl, by rw [hU], by rw [hU]; exact hPc, va_K.moved hW.alike hKc, hDc.weaken (fun _ _ _ _ => trivial)⟩⟩ rfl rfl hl.1 rfl (lv_room (Nat.le_of_ble_eq_true rfl)) dX11_get_16 ⟨Nat.le_of_ble_eq_true rfl, Nat.le_of_ble_eq_true rfl⟩) hS (fun q _ h => hFc q h) hFc (fun r_8 u t H1 locs ht hvm hw hB hz1 hk1 hS => ?_)
    obtain ⟨hP1, hK1, hD1⟩ := hB
    rw [ht] at hP1
    try dsimp only at hw
    obtain ⟨hP, hD⟩ := va_join (wr := [(rd, .inr (4, [.ref lenses_, .int 0, .int 0, .int 0, .int (-1), .int (-1), .ref tp, .ref names_, .ref quoted_, .ref links_, .ref walker2_, .int 0, .int 0, .int 0]))]) (w1 := [(h0, .inr (11, [.ref sl, .ref walker_, .ref rd, .ref machine_, .ref trial_, .ref dk])), (sl, .inl (cT, 8, .inr (.inr (.inr (.inr fT)))))]) hP hD [1, 2] [0] rfl rfl (by decide) (by decide) hk1 hFc hP1 hD1
    clear hk1 hz1 hPc hDc hFc hP1 hD1 hK1 hKc
    generalize H1 = H at hP hS ⊢
    have hP : va_P (dC, dI) cls [(rd, .inr (4, [.ref lenses_, .int 0, .int 0, .int 0, .int (-1), .int (-1), .ref tp, .ref names_, .ref quoted_, .ref links_, .ref walker2_, .int 0, .int 0, .int 0])), (h0, .inr (11, [.ref sl, .ref walker_, .ref rd, .ref machine_, .ref trial_, .ref dk])), (sl, .inl (cT, 8, .inr (.inr (.inr (.inr fT)))))] H := hP
    have hD : va_D A [(rd, .inr (4, [.ref lenses_, .int 0, .int 0, .int 0, .int (-1), .int (-1), .ref tp, .ref names_, .ref quoted_, .ref links_, .ref walker2_, .int 0, .int 0, .int 0])), (h0, .inr (11, [.ref sl, .ref walker_, .ref rd, .ref machine_, .ref trial_, .ref dk])), (sl, .inl (cT, 8, .inr (.inr (.inr (.inr fT)))))] := hD
    rcases hw with ⟨f_9, rfl⟩ | ⟨f_9, rfl⟩
    · skip
      obtain ⟨t_10, et_10⟩ := hf v3 f_9
      refine W.eq (g2 := F0 m 19 ls [.ref t_10]) (by rw [et_10]; rfl) ?_
      refine lv_astore (lv' := [(6, .ref t_10), (5, .ref t_6), (4, .null), (0, .ref h0), (1, .int v1), (2, .int v2), (3, .int v3)]) hx hb dX11_get_19 hl (by decide) rfl (fun ls hl => ?_)
      refine lv_aloadN hx hb dX11_get_21 (lv_at hl 2 rfl) ?_
      refine lv_ifnullN (tgt := 52) hx hb dX11_get_23 (by decide) ?_
      refine lv_iconst (v := (-1)) hx hb dX11_get_52 (by decide) ?_
      have hK9 := hK.sub (tys' := [(cT, .object RX6)]) [0] rfl
      have hP9 := hP.sub (ws' := []) [] rfl
      have hD9 := hD.sub (ws' := []) [] (by decide) rfl
      exact W.iret (v := (-1)) hx hb hr (fun t ht hW => ⟨⟨(-1), (), rfl, rfl, by rw [ht]; exact hP9, va_K.moved hW.alike hK9, hD9⟩, hS.F ht⟩) hS.2.2 dX11_get_53
    · skip
      refine W.eq (g2 := F0 m 19 ls [.null]) rfl ?_
      refine lv_astoreN (lv' := [(6, .null), (5, .ref t_6), (4, .null), (0, .ref h0), (1, .int v1), (2, .int v2), (3, .int v3)]) hx hb dX11_get_19 hl (by decide) rfl (fun ls hl => ?_)
      refine lv_aloadN hx hb dX11_get_21 (lv_at hl 2 rfl) ?_
      refine lv_ifnullN (tgt := 52) hx hb dX11_get_23 (by decide) ?_
      refine lv_iconst (v := (-1)) hx hb dX11_get_52 (by decide) ?_
      have hK9 := hK.sub (tys' := [(cT, .object RX6)]) [0] rfl
      have hP9 := hP.sub (ws' := []) [] rfl
      have hD9 := hD.sub (ws' := []) [] (by decide) rfl
      exact W.iret (v := (-1)) hx hb hr (fun t ht hW => ⟨⟨(-1), (), rfl, rfl, by rw [ht]; exact hP9, va_K.moved hW.alike hK9, hD9⟩, hS.F ht⟩) hS.2.2 dX11_get_53
  · skip
    refine W.eq (g2 := F0 m 12 ls [.null]) rfl ?_
    refine lv_astoreN (lv' := [(5, .null), (4, .null), (0, .ref h0), (1, .int v1), (2, .int v2), (3, .int v3)]) hx hb dX11_get_12 hl (by decide) rfl (fun ls hl => ?_)
    refine lv_aload_n hx hb dX11_get_14 rfl (lv_at hl 2 rfl) ?_
    refine lv_iload_n hx hb dX11_get_15 rfl (lv_at hl 5 rfl) ?_
    have hPc := hP.sub (ws' := [(h0, .inr (11, [.ref sl, .ref walker_, .ref rd, .ref machine_, .ref trial_, .ref dk])), (sl, .inl (cT, 8, .inr (.inr (.inr (.inr fT)))))]) [1, 2] rfl
    have hDc := hD.sub (ws' := [(h0, .inr (11, [.ref sl, .ref walker_, .ref rd, .ref machine_, .ref trial_, .ref dk])), (sl, .inl (cT, 8, .inr (.inr (.inr (.inr fT)))))]) [1, 2] (by decide) rfl
    have hKc := hK.sub (tys' := [(cT, .object RX6)]) [0] rfl
    have hFc := va_free (wc := [(h0, .inr (11, [.ref sl, .ref walker_, .ref rd, .ref machine_, .ref trial_, .ref dk])), (sl, .inl (cT, 8, .inr (.inr (.inr (.inr fT)))))]) hD hS hA [1, 2] rfl
    refine va_callq (va_runV (As := [.int v3]) (rest := []) ⟨hx, hb, hml, hown, hts⟩ (k_slotAt l dC dI H.size h0 v3 sl walker_ rd machine_ trial_ dk cT fT hf) (cwV 1 hts gk_get_74 rfl rfl rfl (by decide +kernel) ⟨Nat.le_of_ble_eq_true rfl, Nat.le_of_ble_eq_true rfl⟩) ⟨fun a U g mk q => by obtain ⟨q0, q1, qP, qK, qD⟩ := q; exact ⟨q0, q1, qP, va_K.moved (u := U) (U := U.calling g mk a) (Vm.Alike.refl U.vm) qK, qD⟩, va_recv hK hP (ci := 11) (q0 := 1) rfl rfl, fun U hU hW => ⟨rfl, by rw [hU], by rw [hU]; exact hPc, va_K.moved hW.alike hKc, hDc.weaken (fun _ _ _ _ => trivial)⟩⟩ rfl rfl hl.1 rfl (lv_room (Nat.le_of_ble_eq_true rfl)) dX11_get_16 ⟨Nat.le_of_ble_eq_true rfl, Nat.le_of_ble_eq_true rfl⟩) hS (fun q _ h => hFc q h) hFc (fun r_12 u t H1 locs ht hvm hw hB hz1 hk1 hS => ?_)
    obtain ⟨hP1, hK1, hD1⟩ := hB
    rw [ht] at hP1
    try dsimp only at hw
    obtain ⟨hP, hD⟩ := va_join (wr := [(rd, .inr (4, [.ref lenses_, .int 0, .int 0, .int 0, .int (-1), .int (-1), .ref tp, .ref names_, .ref quoted_, .ref links_, .ref walker2_, .int 0, .int 0, .int 0]))]) (w1 := [(h0, .inr (11, [.ref sl, .ref walker_, .ref rd, .ref machine_, .ref trial_, .ref dk])), (sl, .inl (cT, 8, .inr (.inr (.inr (.inr fT)))))]) hP hD [1, 2] [0] rfl rfl (by decide) (by decide) hk1 hFc hP1 hD1
    clear hk1 hz1 hPc hDc hFc hP1 hD1 hK1 hKc
    generalize H1 = H at hP hS ⊢
    have hP : va_P (dC, dI) cls [(rd, .inr (4, [.ref lenses_, .int 0, .int 0, .int 0, .int (-1), .int (-1), .ref tp, .ref names_, .ref quoted_, .ref links_, .ref walker2_, .int 0, .int 0, .int 0])), (h0, .inr (11, [.ref sl, .ref walker_, .ref rd, .ref machine_, .ref trial_, .ref dk])), (sl, .inl (cT, 8, .inr (.inr (.inr (.inr fT)))))] H := hP
    have hD : va_D A [(rd, .inr (4, [.ref lenses_, .int 0, .int 0, .int 0, .int (-1), .int (-1), .ref tp, .ref names_, .ref quoted_, .ref links_, .ref walker2_, .int 0, .int 0, .int 0])), (h0, .inr (11, [.ref sl, .ref walker_, .ref rd, .ref machine_, .ref trial_, .ref dk])), (sl, .inl (cT, 8, .inr (.inr (.inr (.inr fT)))))] := hD
    rcases hw with ⟨f_13, rfl⟩ | ⟨f_13, rfl⟩
    · skip
      obtain ⟨t_14, et_14⟩ := hf v3 f_13
      refine W.eq (g2 := F0 m 19 ls [.ref t_14]) (by rw [et_14]; rfl) ?_
      refine lv_astore (lv' := [(6, .ref t_14), (5, .null), (4, .null), (0, .ref h0), (1, .int v1), (2, .int v2), (3, .int v3)]) hx hb dX11_get_19 hl (by decide) rfl (fun ls hl => ?_)
      refine lv_aloadN hx hb dX11_get_21 (lv_at hl 2 rfl) ?_
      refine lv_ifnullN (tgt := 52) hx hb dX11_get_23 (by decide) ?_
      refine lv_iconst (v := (-1)) hx hb dX11_get_52 (by decide) ?_
      have hK9 := hK.sub (tys' := [(cT, .object RX6)]) [0] rfl
      have hP9 := hP.sub (ws' := []) [] rfl
      have hD9 := hD.sub (ws' := []) [] (by decide) rfl
      exact W.iret (v := (-1)) hx hb hr (fun t ht hW => ⟨⟨(-1), (), rfl, rfl, by rw [ht]; exact hP9, va_K.moved hW.alike hK9, hD9⟩, hS.F ht⟩) hS.2.2 dX11_get_53
    · skip
      refine W.eq (g2 := F0 m 19 ls [.null]) rfl ?_
      refine lv_astoreN (lv' := [(6, .null), (5, .null), (4, .null), (0, .ref h0), (1, .int v1), (2, .int v2), (3, .int v3)]) hx hb dX11_get_19 hl (by decide) rfl (fun ls hl => ?_)
      refine lv_aloadN hx hb dX11_get_21 (lv_at hl 2 rfl) ?_
      refine lv_ifnullN (tgt := 52) hx hb dX11_get_23 (by decide) ?_
      refine lv_iconst (v := (-1)) hx hb dX11_get_52 (by decide) ?_
      have hK9 := hK.sub (tys' := [(cT, .object RX6)]) [0] rfl
      have hP9 := hP.sub (ws' := []) [] rfl
      have hD9 := hD.sub (ws' := []) [] (by decide) rfl
      exact W.iret (v := (-1)) hx hb hr (fun t ht hW => ⟨⟨(-1), (), rfl, rfl, by rw [ht]; exact hP9, va_K.moved hW.alike hK9, hD9⟩, hS.F ht⟩) hS.2.2 dX11_get_53
def wk_put : List Cond := .code yX11_put cX11_put 9 (some .int) :: ([.methodLink RX11 105 yX11_lensAt, .instanceMethod yX11_lensAt, .selects RX11 yX11_lensAt yX11_lensAt, .initialized RX11, .code yX11_lensAt cX11_lensAt 2 (some (.object "PutBack$Lens")), .fieldLink RX11 27 "PutBack" "reader" "LPutBack$Reader;", .fieldLink RX11 259 "PutBack$Reader" "told" "I", .methodLink RX11 74 yX11_slotAt, .instanceMethod yX11_slotAt, .selects RX11 yX11_slotAt yX11_slotAt, .code yX11_slotAt cX11_slotAt 2 (some (.object "PutBack$Text")), .fieldLink RX11 11 "PutBack" "slots" "[LPutBack$Text;"] ++ wsX40 ++ wsX110)
theorem ik_put_RX4 : ∀ w ∈ u_ws RX4 TX4 14, w ∈ wk_put := fun w h => List.mem_cons_of_mem _ (List.mem_append_left _ (List.mem_append_right _ h))
theorem ik_put_RX11 : ∀ w ∈ u_ws RX11 TX11 6, w ∈ wk_put := fun w h => List.mem_cons_of_mem _ (List.mem_append_right _ h)
theorem gk_put_105g : GoodIn wk_put wk_lensAt := goodIn_r _ [5, 6, 7, 13, 14, 15, 16, 17, 18, 19, 20, 21, 22, 23, 24, 25, 26, 27, 28, 29, 30, 31, 32] (by decide +kernel) (by decide +kernel)
theorem gk_put_105 : GoodIn wk_put (wsV RX11 105 RX11 yX11_lensAt wk_lensAt) := goodIn_app (goodIn_of _ (by decide +kernel)) gk_put_105g
theorem gk_put_74g : GoodIn wk_put wk_slotAt := goodIn_r _ [11, 12, 27, 28, 29, 30, 31, 32] (by decide +kernel) (by decide +kernel)
theorem gk_put_74 : GoodIn wk_put (wsV RX11 74 RX11 yX11_slotAt wk_slotAt) := goodIn_app (goodIn_of _ (by decide +kernel)) gk_put_74g
set_option maxHeartbeats 4000000 in
set_option maxRecDepth 100000 in
theorem k_put (l : Launch) (dC : Nat → ClassId) (dI : Nat → Nat → Nat) (sz : Nat) (h0 : Nat) (v1 : Int32) (v2 : Int32) (v3 : Int32) (v4 : Int32) (sl : Nat) (walker_ : Nat) (rd : Nat) (machine_ : Nat) (trial_ : Nat) (dk : Nat) (cT : ClassId) (fT : Nat → Option Nat) (lenses_ : Nat) (tp : Nat) (names_ : Nat) (quoted_ : Nat) (links_ : Nat) (walker2_ : Nat) (hf : ∀ i : Int32, inS i → ∃ t, fT i.toNatClampNeg = some t) : Met l yX11_put wk_put ({ frames := 1, cells := 0, slots := 0, locals := 21 } : Room) (va_Pc [.ref h0, .int v1, .int v2, .int v3, .int v4] (fun U => U.heap.size = sz ∧ va_P (dC, dI) cls [(h0, .inr (11, [.ref sl, .ref walker_, .ref rd, .ref machine_, .ref trial_, .ref dk])), (sl, .inl (cT, 8, .inr (.inr (.inr (.inr fT))))), (rd, .inr (4, [.ref lenses_, .int 0, .int 0, .int 0, .int (-1), .int (-1), .ref tp, .ref names_, .ref quoted_, .ref links_, .ref walker2_, .int 0, .int 0, .int 0]))] U.heap ∧ va_K (dC, dI) cls [(cT, .object RX6)] U ∧ va_D (fun _ => True) [(h0, .inr (11, [.ref sl, .ref walker_, .ref rd, .ref machine_, .ref trial_, .ref dk])), (sl, .inl (cT, 8, .inr (.inr (.inr (.inr fT))))), (rd, .inr (4, [.ref lenses_, .int 0, .int 0, .int 0, .int (-1), .int (-1), .ref tp, .ref names_, .ref quoted_, .ref links_, .ref walker2_, .int 0, .int 0, .int 0]))])) (va_Qi (fun (r : Int32) (_ : Unit) => r = -1) (fun (_ : Unit) t => va_P (dC, dI) cls [] t.heap ∧ va_K (dC, dI) cls [(cT, .object RX6)] t ∧ va_D (va_A [(h0, .inr (11, [.ref sl, .ref walker_, .ref rd, .ref machine_, .ref trial_, .ref dk])), (sl, .inl (cT, 8, .inr (.inr (.inr (.inr fT))))), (rd, .inr (4, [.ref lenses_, .int 0, .int 0, .int 0, .int (-1), .int (-1), .ref tp, .ref names_, .ref quoted_, .ref links_, .ref walker2_, .int 0, .int 0, .int 0]))] sz) []) (va_A [(h0, .inr (11, [.ref sl, .ref walker_, .ref rd, .ref machine_, .ref trial_, .ref dk])), (sl, .inl (cT, 8, .inr (.inr (.inr (.inr fT))))), (rd, .inr (4, [.ref lenses_, .int 0, .int 0, .int 0, .int (-1), .int (-1), .ref tp, .ref names_, .ref quoted_, .ref links_, .ref walker2_, .int 0, .int 0, .int 0]))] sz)) 0 0 (va_A [(h0, .inr (11, [.ref sl, .ref walker_, .ref rd, .ref machine_, .ref trial_, .ref dk])), (sl, .inl (cT, 8, .inr (.inr (.inr (.inr fT))))), (rd, .inr (4, [.ref lenses_, .int 0, .int 0, .int 0, .int (-1), .int (-1), .ref tp, .ref names_, .ref quoted_, .ref links_, .ref walker2_, .int 0, .int 0, .int 0]))] sz) := by
  refine Met.ofW (cc := cX11_put) (maxL := 9) (ret := (some .int)) (by decide) rfl ?_
  intro p e s m args below meth c s₁ B hml hv
  obtain ⟨rfl, hsz, hP, hK, hD0⟩ := hv
  have hx := B.exec
  have hb := B.bytes
  have hr := B.returns
  have hts := atoms_spec (ws := wk_put) B.pre
  have hown : s.vm.findClass RX11 = some m.cls := findClass_of_methodNamed B.named
  have hlocks := B.notSynchronized
  subst hsz
  have hD := hD0.self (sz := s.heap.size)
  generalize hAe : va_A [(h0, .inr (11, [.ref sl, .ref walker_, .ref rd, .ref machine_, .ref trial_, .ref dk])), (sl, .inl (cT, 8, .inr (.inr (.inr (.inr fT))))), (rd, .inr (4, [.ref lenses_, .int 0, .int 0, .int 0, .int (-1), .int (-1), .ref tp, .ref names_, .ref quoted_, .ref links_, .ref walker2_, .int 0, .int 0, .int 0]))] s.heap.size = A at hD ⊢
  have hA : ∀ q : Nat, s.heap.size ≤ q → A q := fun q h => by rw [← hAe]; exact Or.inr h
  have hP : va_P (dC, dI) cls [(h0, .inr (11, [.ref sl, .ref walker_, .ref rd, .ref machine_, .ref trial_, .ref dk])), (sl, .inl (cT, 8, .inr (.inr (.inr (.inr fT))))), (rd, .inr (4, [.ref lenses_, .int 0, .int 0, .int 0, .int (-1), .int (-1), .ref tp, .ref names_, .ref quoted_, .ref links_, .ref walker2_, .int 0, .int 0, .int 0]))] s.heap := hP
  have hl := lv_entry ([.ref h0, .int v1, .int v2, .int v3, .int v4]) (n := 9) (Nat.le_of_ble_eq_true rfl)
  rw [lg_entry_eq]
  generalize (lg_sl ([.ref h0, .int v1, .int v2, .int v3, .int v4]) ++ List.replicate (9 - (lg_sl ([.ref h0, .int v1, .int v2, .int v3, .int v4])).length) Slot.unset).toArray = ls at hl ⊢
  have hl : lv_has ls 9 [(0, .ref h0), (1, .int v1), (2, .int v2), (3, .int v3), (4, .int v4)] := hl
  obtain ⟨H, hH⟩ : ∃ H : Heap, s.heap = H := ⟨_, rfl⟩
  rw [hH] at hP ⊢
  have hS : va_S A s.heap H [] := by rw [← hH]; exact va_S.rf
  refine lv_aload_n hx hb dX11_put_0 rfl (lv_at hl 0 rfl) ?_
  refine lv_iload_n hx hb dX11_put_1 rfl (lv_at hl 1 rfl) ?_
  have hPc := hP.sub (ws' := [(h0, .inr (11, [.ref sl, .ref walker_, .ref rd, .ref machine_, .ref trial_, .ref dk])), (rd, .inr (4, [.ref lenses_, .int 0, .int 0, .int 0, .int (-1), .int (-1), .ref tp, .ref names_, .ref quoted_, .ref links_, .ref walker2_, .int 0, .int 0, .int 0]))]) [0, 2] rfl
  have hDc := hD.sub (ws' := [(h0, .inr (11, [.ref sl, .ref walker_, .ref rd, .ref machine_, .ref trial_, .ref dk])), (rd, .inr (4, [.ref lenses_, .int 0, .int 0, .int 0, .int (-1), .int (-1), .ref tp, .ref names_, .ref quoted_, .ref links_, .ref walker2_, .int 0, .int 0, .int 0]))]) [0, 2] (by decide) rfl
  have hKc := hK.sub (tys' := []) [] rfl
  have hFc := va_free (wc := [(h0, .inr (11, [.ref sl, .ref walker_, .ref rd, .ref machine_, .ref trial_, .ref dk])), (rd, .inr (4, [.ref lenses_, .int 0, .int 0, .int 0, .int (-1), .int (-1), .ref tp, .ref names_, .ref quoted_, .ref links_, .ref walker2_, .int 0, .int 0, .int 0]))]) hD hS hA [0, 2] rfl
  refine va_callq (va_runV (As := [.int v1]) (rest := []) ⟨hx, hb, hml, hown, hts⟩ (k_lensAt l dC dI H.size h0 v1 sl walker_ rd machine_ trial_ dk lenses_ tp names_ quoted_ links_ walker2_) (cwV 1 hts gk_put_105 rfl rfl rfl (by decide +kernel) ⟨Nat.le_of_ble_eq_true rfl, Nat.le_of_ble_eq_true rfl⟩) ⟨fun a U g mk q => by obtain ⟨q0, q1, qP, qK, qD⟩ := q; exact ⟨q0, q1, qP, va_K.moved (u := U) (U := U.calling g mk a) (Vm.Alike.refl U.vm) qK, qD⟩, va_recv hK hP (ci := 11) (q0 := 0) rfl rfl, fun U hU hW => ⟨rfl, by rw [hU], by rw [hU]; exact hPc, va_K.moved hW.alike hKc, hDc.weaken (fun _ _ _ _ => trivial)⟩⟩ rfl rfl hl.1 rfl (lv_room (Nat.le_of_ble_eq_true rfl)) dX11_put_2 ⟨Nat.le_of_ble_eq_true rfl, Nat.le_of_ble_eq_true rfl⟩) hS (fun q _ h => hFc q h) hFc (fun r_2 u t H1 locs ht hvm hw hB hz1 hk1 hS => ?_)
  obtain ⟨hP1, hK1, hD1⟩ := hB
  rw [ht] at hP1
  try dsimp only at hw
  obtain ⟨hP, hD⟩ := va_join (wr := [(sl, .inl (cT, 8, .inr (.inr (.inr (.inr fT)))))]) (w1 := [(h0, .inr (11, [.ref sl, .ref walker_, .ref rd, .ref machine_, .ref trial_, .ref dk])), (rd, .inr (4, [.ref lenses_, .int 0, .int 0, .int 0, .int (-1), .int (-1), .ref tp, .ref names_, .ref quoted_, .ref links_, .ref walker2_, .int 0, .int 0, .int 0]))]) hP hD [0, 2] [1] rfl rfl (by decide) (by decide) hk1 hFc hP1 hD1
  clear hk1 hz1 hPc hDc hFc hP1 hD1 hK1 hKc
  generalize H1 = H at hP hS ⊢
  have hP : va_P (dC, dI) cls [(sl, .inl (cT, 8, .inr (.inr (.inr (.inr fT))))), (h0, .inr (11, [.ref sl, .ref walker_, .ref rd, .ref machine_, .ref trial_, .ref dk])), (rd, .inr (4, [.ref lenses_, .int 0, .int 0, .int 0, .int (-1), .int (-1), .ref tp, .ref names_, .ref quoted_, .ref links_, .ref walker2_, .int 0, .int 0, .int 0]))] H := hP
  have hD : va_D A [(sl, .inl (cT, 8, .inr (.inr (.inr (.inr fT))))), (h0, .inr (11, [.ref sl, .ref walker_, .ref rd, .ref machine_, .ref trial_, .ref dk])), (rd, .inr (4, [.ref lenses_, .int 0, .int 0, .int 0, .int (-1), .int (-1), .ref tp, .ref names_, .ref quoted_, .ref links_, .ref walker2_, .int 0, .int 0, .int 0]))] := hD
  obtain rfl := hw
  refine W.eq (g2 := F0 m 5 ls [.null]) rfl ?_
  refine lv_astoreN (lv' := [(5, .null), (0, .ref h0), (1, .int v1), (2, .int v2), (3, .int v3), (4, .int v4)]) hx hb dX11_put_5 hl (by decide) rfl (fun ls hl => ?_)
  refine lv_aload_n hx hb dX11_put_7 rfl (lv_at hl 1 rfl) ?_
  refine lv_iload_n hx hb dX11_put_8 rfl (lv_at hl 3 rfl) ?_
  have hPc := hP.sub (ws' := [(h0, .inr (11, [.ref sl, .ref walker_, .ref rd, .ref machine_, .ref trial_, .ref dk])), (sl, .inl (cT, 8, .inr (.inr (.inr (.inr fT)))))]) [1, 0] rfl
  have hDc := hD.sub (ws' := [(h0, .inr (11, [.ref sl, .ref walker_, .ref rd, .ref machine_, .ref trial_, .ref dk])), (sl, .inl (cT, 8, .inr (.inr (.inr (.inr fT)))))]) [1, 0] (by decide) rfl
  have hKc := hK.sub (tys' := [(cT, .object RX6)]) [0] rfl
  have hFc := va_free (wc := [(h0, .inr (11, [.ref sl, .ref walker_, .ref rd, .ref machine_, .ref trial_, .ref dk])), (sl, .inl (cT, 8, .inr (.inr (.inr (.inr fT)))))]) hD hS hA [1, 0] rfl
  refine va_callq (va_runV (As := [.int v2]) (rest := []) ⟨hx, hb, hml, hown, hts⟩ (k_slotAt l dC dI H.size h0 v2 sl walker_ rd machine_ trial_ dk cT fT hf) (cwV 1 hts gk_put_74 rfl rfl rfl (by decide +kernel) ⟨Nat.le_of_ble_eq_true rfl, Nat.le_of_ble_eq_true rfl⟩) ⟨fun a U g mk q => by obtain ⟨q0, q1, qP, qK, qD⟩ := q; exact ⟨q0, q1, qP, va_K.moved (u := U) (U := U.calling g mk a) (Vm.Alike.refl U.vm) qK, qD⟩, va_recv hK hP (ci := 11) (q0 := 1) rfl rfl, fun U hU hW => ⟨rfl, by rw [hU], by rw [hU]; exact hPc, va_K.moved hW.alike hKc, hDc.weaken (fun _ _ _ _ => trivial)⟩⟩ rfl rfl hl.1 rfl (lv_room (Nat.le_of_ble_eq_true rfl)) dX11_put_9 ⟨Nat.le_of_ble_eq_true rfl, Nat.le_of_ble_eq_true rfl⟩) hS (fun q _ h => hFc q h) hFc (fun r_4 u t H1 locs ht hvm hw hB hz1 hk1 hS => ?_)
  obtain ⟨hP1, hK1, hD1⟩ := hB
  rw [ht] at hP1
  try dsimp only at hw
  obtain ⟨hP, hD⟩ := va_join (wr := [(rd, .inr (4, [.ref lenses_, .int 0, .int 0, .int 0, .int (-1), .int (-1), .ref tp, .ref names_, .ref quoted_, .ref links_, .ref walker2_, .int 0, .int 0, .int 0]))]) (w1 := [(h0, .inr (11, [.ref sl, .ref walker_, .ref rd, .ref machine_, .ref trial_, .ref dk])), (sl, .inl (cT, 8, .inr (.inr (.inr (.inr fT)))))]) hP hD [1, 0] [2] rfl rfl (by decide) (by decide) hk1 hFc hP1 hD1
  clear hk1 hz1 hPc hDc hFc hP1 hD1 hK1 hKc
  generalize H1 = H at hP hS ⊢
  have hP : va_P (dC, dI) cls [(rd, .inr (4, [.ref lenses_, .int 0, .int 0, .int 0, .int (-1), .int (-1), .ref tp, .ref names_, .ref quoted_, .ref links_, .ref walker2_, .int 0, .int 0, .int 0])), (h0, .inr (11, [.ref sl, .ref walker_, .ref rd, .ref machine_, .ref trial_, .ref dk])), (sl, .inl (cT, 8, .inr (.inr (.inr (.inr fT)))))] H := hP
  have hD : va_D A [(rd, .inr (4, [.ref lenses_, .int 0, .int 0, .int 0, .int (-1), .int (-1), .ref tp, .ref names_, .ref quoted_, .ref links_, .ref walker2_, .int 0, .int 0, .int 0])), (h0, .inr (11, [.ref sl, .ref walker_, .ref rd, .ref machine_, .ref trial_, .ref dk])), (sl, .inl (cT, 8, .inr (.inr (.inr (.inr fT)))))] := hD
  rcases hw with ⟨f_5, rfl⟩ | ⟨f_5, rfl⟩
  · skip
    obtain ⟨t_6, et_6⟩ := hf v2 f_5
    refine W.eq (g2 := F0 m 12 ls [.ref t_6]) (by rw [et_6]; rfl) ?_
    refine lv_astore (lv' := [(6, .ref t_6), (5, .null), (0, .ref h0), (1, .int v1), (2, .int v2), (3, .int v3), (4, .int v4)]) hx hb dX11_put_12 hl (by decide) rfl (fun ls hl => ?_)
    refine lv_aload_n hx hb dX11_put_14 rfl (lv_at hl 2 rfl) ?_
    refine lv_iload_n hx hb dX11_put_15 rfl (lv_at hl 5 rfl) ?_
    have hPc := hP.sub (ws' := [(h0, .inr (11, [.ref sl, .ref walker_, .ref rd, .ref machine_, .ref trial_, .ref dk])), (sl, .inl (cT, 8, .inr (.inr (.inr (.inr fT)))))]) [1, 2] rfl
    have hDc := hD.sub (ws' := [(h0, .inr (11, [.ref sl, .ref walker_, .ref rd, .ref machine_, .ref trial_, .ref dk])), (sl, .inl (cT, 8, .inr (.inr (.inr (.inr fT)))))]) [1, 2] (by decide) rfl
    have hKc := hK.sub (tys' := [(cT, .object RX6)]) [0] rfl
    have hFc := va_free (wc := [(h0, .inr (11, [.ref sl, .ref walker_, .ref rd, .ref machine_, .ref trial_, .ref dk])), (sl, .inl (cT, 8, .inr (.inr (.inr (.inr fT)))))]) hD hS hA [1, 2] rfl
    refine va_callq (va_runV (As := [.int v3]) (rest := []) ⟨hx, hb, hml, hown, hts⟩ (k_slotAt l dC dI H.size h0 v3 sl walker_ rd machine_ trial_ dk cT fT hf) (cwV 1 hts gk_put_74 rfl rfl rfl (by decide +kernel) ⟨Nat.le_of_ble_eq_true rfl, Nat.le_of_ble_eq_true rfl⟩) ⟨fun a U g mk q => by obtain ⟨q0, q1, qP, qK, qD⟩ := q; exact ⟨q0, q1, qP, va_K.moved (u := U) (U := U.calling g mk a) (Vm.Alike.refl U.vm) qK, qD⟩, va_recv hK hP (ci := 11) (q0 := 1) rfl rfl, fun U hU hW => ⟨rfl, by rw [hU], by rw [hU]; exact hPc, va_K.moved hW.alike hKc, hDc.weaken (fun _ _ _ _ => trivial)⟩⟩ rfl rfl hl.1 rfl (lv_room (Nat.le_of_ble_eq_true rfl)) dX11_put_16 ⟨Nat.le_of_ble_eq_true rfl, Nat.le_of_ble_eq_true rfl⟩) hS (fun q _ h => hFc q h) hFc (fun r_8 u t H1 locs ht hvm hw hB hz1 hk1 hS => ?_)
    obtain ⟨hP1, hK1, hD1⟩ := hB
    rw [ht] at hP1
    try dsimp only at hw
    obtain ⟨hP, hD⟩ := va_join (wr := [(rd, .inr (4, [.ref lenses_, .int 0, .int 0, .int 0, .int (-1), .int (-1), .ref tp, .ref names_, .ref quoted_, .ref links_, .ref walker2_, .int 0, .int 0, .int 0]))]) (w1 := [(h0, .inr (11, [.ref sl, .ref walker_, .ref rd, .ref machine_, .ref trial_, .ref dk])), (sl, .inl (cT, 8, .inr (.inr (.inr (.inr fT)))))]) hP hD [1, 2] [0] rfl rfl (by decide) (by decide) hk1 hFc hP1 hD1
    clear hk1 hz1 hPc hDc hFc hP1 hD1 hK1 hKc
    generalize H1 = H at hP hS ⊢
    have hP : va_P (dC, dI) cls [(rd, .inr (4, [.ref lenses_, .int 0, .int 0, .int 0, .int (-1), .int (-1), .ref tp, .ref names_, .ref quoted_, .ref links_, .ref walker2_, .int 0, .int 0, .int 0])), (h0, .inr (11, [.ref sl, .ref walker_, .ref rd, .ref machine_, .ref trial_, .ref dk])), (sl, .inl (cT, 8, .inr (.inr (.inr (.inr fT)))))] H := hP
    have hD : va_D A [(rd, .inr (4, [.ref lenses_, .int 0, .int 0, .int 0, .int (-1), .int (-1), .ref tp, .ref names_, .ref quoted_, .ref links_, .ref walker2_, .int 0, .int 0, .int 0])), (h0, .inr (11, [.ref sl, .ref walker_, .ref rd, .ref machine_, .ref trial_, .ref dk])), (sl, .inl (cT, 8, .inr (.inr (.inr (.inr fT)))))] := hD
    rcases hw with ⟨f_9, rfl⟩ | ⟨f_9, rfl⟩
    · skip
      obtain ⟨t_10, et_10⟩ := hf v3 f_9
      refine W.eq (g2 := F0 m 19 ls [.ref t_10]) (by rw [et_10]; rfl) ?_
      refine lv_astore (lv' := [(7, .ref t_10), (6, .ref t_6), (5, .null), (0, .ref h0), (1, .int v1), (2, .int v2), (3, .int v3), (4, .int v4)]) hx hb dX11_put_19 hl (by decide) rfl (fun ls hl => ?_)
      refine lv_aload_n hx hb dX11_put_21 rfl (lv_at hl 3 rfl) ?_
      refine lv_iload hx hb dX11_put_22 (lv_at hl 7 rfl) ?_
      have hPc := hP.sub (ws' := [(h0, .inr (11, [.ref sl, .ref walker_, .ref rd, .ref machine_, .ref trial_, .ref dk])), (sl, .inl (cT, 8, .inr (.inr (.inr (.inr fT)))))]) [1, 2] rfl
      have hDc := hD.sub (ws' := [(h0, .inr (11, [.ref sl, .ref walker_, .ref rd, .ref machine_, .ref trial_, .ref dk])), (sl, .inl (cT, 8, .inr (.inr (.inr (.inr fT)))))]) [1, 2] (by decide) rfl
      have hKc := hK.sub (tys' := [(cT, .object RX6)]) [0] rfl
      have hFc := va_free (wc := [(h0, .inr (11, [.ref sl, .ref walker_, .ref rd, .ref machine_, .ref trial_, .ref dk])), (sl, .inl (cT, 8, .inr (.inr (.inr (.inr fT)))))]) hD hS hA [1, 2] rfl
      refine va_callq (va_runV (As := [.int v4]) (rest := []) ⟨hx, hb, hml, hown, hts⟩ (k_slotAt l dC dI H.size h0 v4 sl walker_ rd machine_ trial_ dk cT fT hf) (cwV 1 hts gk_put_74 rfl rfl rfl (by decide +kernel) ⟨Nat.le_of_ble_eq_true rfl, Nat.le_of_ble_eq_true rfl⟩) ⟨fun a U g mk q => by obtain ⟨q0, q1, qP, qK, qD⟩ := q; exact ⟨q0, q1, qP, va_K.moved (u := U) (U := U.calling g mk a) (Vm.Alike.refl U.vm) qK, qD⟩, va_recv hK hP (ci := 11) (q0 := 1) rfl rfl, fun U hU hW => ⟨rfl, by rw [hU], by rw [hU]; exact hPc, va_K.moved hW.alike hKc, hDc.weaken (fun _ _ _ _ => trivial)⟩⟩ rfl rfl hl.1 rfl (lv_room (Nat.le_of_ble_eq_true rfl)) dX11_put_24 ⟨Nat.le_of_ble_eq_true rfl, Nat.le_of_ble_eq_true rfl⟩) hS (fun q _ h => hFc q h) hFc (fun r_12 u t H1 locs ht hvm hw hB hz1 hk1 hS => ?_)
      obtain ⟨hP1, hK1, hD1⟩ := hB
      rw [ht] at hP1
      try dsimp only at hw
      obtain ⟨hP, hD⟩ := va_join (wr := [(rd, .inr (4, [.ref lenses_, .int 0, .int 0, .int 0, .int (-1), .int (-1), .ref tp, .ref names_, .ref quoted_, .ref links_, .ref walker2_, .int 0, .int 0, .int 0]))]) (w1 := [(h0, .inr (11, [.ref sl, .ref walker_, .ref rd, .ref machine_, .ref trial_, .ref dk])), (sl, .inl (cT, 8, .inr (.inr (.inr (.inr fT)))))]) hP hD [1, 2] [0] rfl rfl (by decide) (by decide) hk1 hFc hP1 hD1
      clear hk1 hz1 hPc hDc hFc hP1 hD1 hK1 hKc
      generalize H1 = H at hP hS ⊢
      have hP : va_P (dC, dI) cls [(rd, .inr (4, [.ref lenses_, .int 0, .int 0, .int 0, .int (-1), .int (-1), .ref tp, .ref names_, .ref quoted_, .ref links_, .ref walker2_, .int 0, .int 0, .int 0])), (h0, .inr (11, [.ref sl, .ref walker_, .ref rd, .ref machine_, .ref trial_, .ref dk])), (sl, .inl (cT, 8, .inr (.inr (.inr (.inr fT)))))] H := hP
      have hD : va_D A [(rd, .inr (4, [.ref lenses_, .int 0, .int 0, .int 0, .int (-1), .int (-1), .ref tp, .ref names_, .ref quoted_, .ref links_, .ref walker2_, .int 0, .int 0, .int 0])), (h0, .inr (11, [.ref sl, .ref walker_, .ref rd, .ref machine_, .ref trial_, .ref dk])), (sl, .inl (cT, 8, .inr (.inr (.inr (.inr fT)))))] := hD
      rcases hw with ⟨f_13, rfl⟩ | ⟨f_13, rfl⟩
      · skip
        obtain ⟨t_14, et_14⟩ := hf v4 f_13
        refine W.eq (g2 := F0 m 27 ls [.ref t_14]) (by rw [et_14]; rfl) ?_
        refine lv_astore (lv' := [(8, .ref t_14), (7, .ref t_10), (6, .ref t_6), (5, .null), (0, .ref h0), (1, .int v1), (2, .int v2), (3, .int v3), (4, .int v4)]) hx hb dX11_put_27 hl (by decide) rfl (fun ls hl => ?_)
        refine lv_aloadN hx hb dX11_put_29 (lv_at hl 3 rfl) ?_
        refine lv_ifnullN (tgt := 49) hx hb dX11_put_31 (by decide) ?_
        refine lv_iconst (v := (-1)) hx hb dX11_put_49 (by decide) ?_
        have hK9 := hK.sub (tys' := [(cT, .object RX6)]) [0] rfl
        have hP9 := hP.sub (ws' := []) [] rfl
        have hD9 := hD.sub (ws' := []) [] (by decide) rfl
        exact W.iret (v := (-1)) hx hb hr (fun t ht hW => ⟨⟨(-1), (), rfl, rfl, by rw [ht]; exact hP9, va_K.moved hW.alike hK9, hD9⟩, hS.F ht⟩) hS.2.2 dX11_put_50
      · skip
        refine W.eq (g2 := F0 m 27 ls [.null]) rfl ?_
        refine lv_astoreN (lv' := [(8, .null), (7, .ref t_10), (6, .ref t_6), (5, .null), (0, .ref h0), (1, .int v1), (2, .int v2), (3, .int v3), (4, .int v4)]) hx hb dX11_put_27 hl (by decide) rfl (fun ls hl => ?_)
        refine lv_aloadN hx hb dX11_put_29 (lv_at hl 3 rfl) ?_
        refine lv_ifnullN (tgt := 49) hx hb dX11_put_31 (by decide) ?_
        refine lv_iconst (v := (-1)) hx hb dX11_put_49 (by decide) ?_
        have hK9 := hK.sub (tys' := [(cT, .object RX6)]) [0] rfl
        have hP9 := hP.sub (ws' := []) [] rfl
        have hD9 := hD.sub (ws' := []) [] (by decide) rfl
        exact W.iret (v := (-1)) hx hb hr (fun t ht hW => ⟨⟨(-1), (), rfl, rfl, by rw [ht]; exact hP9, va_K.moved hW.alike hK9, hD9⟩, hS.F ht⟩) hS.2.2 dX11_put_50
    · skip
      refine W.eq (g2 := F0 m 19 ls [.null]) rfl ?_
      refine lv_astoreN (lv' := [(7, .null), (6, .ref t_6), (5, .null), (0, .ref h0), (1, .int v1), (2, .int v2), (3, .int v3), (4, .int v4)]) hx hb dX11_put_19 hl (by decide) rfl (fun ls hl => ?_)
      refine lv_aload_n hx hb dX11_put_21 rfl (lv_at hl 3 rfl) ?_
      refine lv_iload hx hb dX11_put_22 (lv_at hl 7 rfl) ?_
      have hPc := hP.sub (ws' := [(h0, .inr (11, [.ref sl, .ref walker_, .ref rd, .ref machine_, .ref trial_, .ref dk])), (sl, .inl (cT, 8, .inr (.inr (.inr (.inr fT)))))]) [1, 2] rfl
      have hDc := hD.sub (ws' := [(h0, .inr (11, [.ref sl, .ref walker_, .ref rd, .ref machine_, .ref trial_, .ref dk])), (sl, .inl (cT, 8, .inr (.inr (.inr (.inr fT)))))]) [1, 2] (by decide) rfl
      have hKc := hK.sub (tys' := [(cT, .object RX6)]) [0] rfl
      have hFc := va_free (wc := [(h0, .inr (11, [.ref sl, .ref walker_, .ref rd, .ref machine_, .ref trial_, .ref dk])), (sl, .inl (cT, 8, .inr (.inr (.inr (.inr fT)))))]) hD hS hA [1, 2] rfl
      refine va_callq (va_runV (As := [.int v4]) (rest := []) ⟨hx, hb, hml, hown, hts⟩ (k_slotAt l dC dI H.size h0 v4 sl walker_ rd machine_ trial_ dk cT fT hf) (cwV 1 hts gk_put_74 rfl rfl rfl (by decide +kernel) ⟨Nat.le_of_ble_eq_true rfl, Nat.le_of_ble_eq_true rfl⟩) ⟨fun a U g mk q => by obtain ⟨q0, q1, qP, qK, qD⟩ := q; exact ⟨q0, q1, qP, va_K.moved (u := U) (U := U.calling g mk a) (Vm.Alike.refl U.vm) qK, qD⟩, va_recv hK hP (ci := 11) (q0 := 1) rfl rfl, fun U hU hW => ⟨rfl, by rw [hU], by rw [hU]; exact hPc, va_K.moved hW.alike hKc, hDc.weaken (fun _ _ _ _ => trivial)⟩⟩ rfl rfl hl.1 rfl (lv_room (Nat.le_of_ble_eq_true rfl)) dX11_put_24 ⟨Nat.le_of_ble_eq_true rfl, Nat.le_of_ble_eq_true rfl⟩) hS (fun q _ h => hFc q h) hFc (fun r_16 u t H1 locs ht hvm hw hB hz1 hk1 hS => ?_)
      obtain ⟨hP1, hK1, hD1⟩ := hB
      rw [ht] at hP1
      try dsimp only at hw
      obtain ⟨hP, hD⟩ := va_join (wr := [(rd, .inr (4, [.ref lenses_, .int 0, .int 0, .int 0, .int (-1), .int (-1), .ref tp, .ref names_, .ref quoted_, .ref links_, .ref walker2_, .int 0, .int 0, .int 0]))]) (w1 := [(h0, .inr (11, [.ref sl, .ref walker_, .ref rd, .ref machine_, .ref trial_, .ref dk])), (sl, .inl (cT, 8, .inr (.inr (.inr (.inr fT)))))]) hP hD [1, 2] [0] rfl rfl (by decide) (by decide) hk1 hFc hP1 hD1
      clear hk1 hz1 hPc hDc hFc hP1 hD1 hK1 hKc
      generalize H1 = H at hP hS ⊢
      have hP : va_P (dC, dI) cls [(rd, .inr (4, [.ref lenses_, .int 0, .int 0, .int 0, .int (-1), .int (-1), .ref tp, .ref names_, .ref quoted_, .ref links_, .ref walker2_, .int 0, .int 0, .int 0])), (h0, .inr (11, [.ref sl, .ref walker_, .ref rd, .ref machine_, .ref trial_, .ref dk])), (sl, .inl (cT, 8, .inr (.inr (.inr (.inr fT)))))] H := hP
      have hD : va_D A [(rd, .inr (4, [.ref lenses_, .int 0, .int 0, .int 0, .int (-1), .int (-1), .ref tp, .ref names_, .ref quoted_, .ref links_, .ref walker2_, .int 0, .int 0, .int 0])), (h0, .inr (11, [.ref sl, .ref walker_, .ref rd, .ref machine_, .ref trial_, .ref dk])), (sl, .inl (cT, 8, .inr (.inr (.inr (.inr fT)))))] := hD
      rcases hw with ⟨f_17, rfl⟩ | ⟨f_17, rfl⟩
      · skip
        obtain ⟨t_18, et_18⟩ := hf v4 f_17
        refine W.eq (g2 := F0 m 27 ls [.ref t_18]) (by rw [et_18]; rfl) ?_
        refine lv_astore (lv' := [(8, .ref t_18), (7, .null), (6, .ref t_6), (5, .null), (0, .ref h0), (1, .int v1), (2, .int v2), (3, .int v3), (4, .int v4)]) hx hb dX11_put_27 hl (by decide) rfl (fun ls hl => ?_)
        refine lv_aloadN hx hb dX11_put_29 (lv_at hl 3 rfl) ?_
        refine lv_ifnullN (tgt := 49) hx hb dX11_put_31 (by decide) ?_
        refine lv_iconst (v := (-1)) hx hb dX11_put_49 (by decide) ?_
        have hK9 := hK.sub (tys' := [(cT, .object RX6)]) [0] rfl
        have hP9 := hP.sub (ws' := []) [] rfl
        have hD9 := hD.sub (ws' := []) [] (by decide) rfl
        exact W.iret (v := (-1)) hx hb hr (fun t ht hW => ⟨⟨(-1), (), rfl, rfl, by rw [ht]; exact hP9, va_K.moved hW.alike hK9, hD9⟩, hS.F ht⟩) hS.2.2 dX11_put_50
      · skip
        refine W.eq (g2 := F0 m 27 ls [.null]) rfl ?_
        refine lv_astoreN (lv' := [(8, .null), (7, .null), (6, .ref t_6), (5, .null), (0, .ref h0), (1, .int v1), (2, .int v2), (3, .int v3), (4, .int v4)]) hx hb dX11_put_27 hl (by decide) rfl (fun ls hl => ?_)
        refine lv_aloadN hx hb dX11_put_29 (lv_at hl 3 rfl) ?_
        refine lv_ifnullN (tgt := 49) hx hb dX11_put_31 (by decide) ?_
        refine lv_iconst (v := (-1)) hx hb dX11_put_49 (by decide) ?_
        have hK9 := hK.sub (tys' := [(cT, .object RX6)]) [0] rfl
        have hP9 := hP.sub (ws' := []) [] rfl
        have hD9 := hD.sub (ws' := []) [] (by decide) rfl
        exact W.iret (v := (-1)) hx hb hr (fun t ht hW => ⟨⟨(-1), (), rfl, rfl, by rw [ht]; exact hP9, va_K.moved hW.alike hK9, hD9⟩, hS.F ht⟩) hS.2.2 dX11_put_50
  · skip
    refine W.eq (g2 := F0 m 12 ls [.null]) rfl ?_
    refine lv_astoreN (lv' := [(6, .null), (5, .null), (0, .ref h0), (1, .int v1), (2, .int v2), (3, .int v3), (4, .int v4)]) hx hb dX11_put_12 hl (by decide) rfl (fun ls hl => ?_)
    refine lv_aload_n hx hb dX11_put_14 rfl (lv_at hl 2 rfl) ?_
    refine lv_iload_n hx hb dX11_put_15 rfl (lv_at hl 5 rfl) ?_
    have hPc := hP.sub (ws' := [(h0, .inr (11, [.ref sl, .ref walker_, .ref rd, .ref machine_, .ref trial_, .ref dk])), (sl, .inl (cT, 8, .inr (.inr (.inr (.inr fT)))))]) [1, 2] rfl
    have hDc := hD.sub (ws' := [(h0, .inr (11, [.ref sl, .ref walker_, .ref rd, .ref machine_, .ref trial_, .ref dk])), (sl, .inl (cT, 8, .inr (.inr (.inr (.inr fT)))))]) [1, 2] (by decide) rfl
    have hKc := hK.sub (tys' := [(cT, .object RX6)]) [0] rfl
    have hFc := va_free (wc := [(h0, .inr (11, [.ref sl, .ref walker_, .ref rd, .ref machine_, .ref trial_, .ref dk])), (sl, .inl (cT, 8, .inr (.inr (.inr (.inr fT)))))]) hD hS hA [1, 2] rfl
    refine va_callq (va_runV (As := [.int v3]) (rest := []) ⟨hx, hb, hml, hown, hts⟩ (k_slotAt l dC dI H.size h0 v3 sl walker_ rd machine_ trial_ dk cT fT hf) (cwV 1 hts gk_put_74 rfl rfl rfl (by decide +kernel) ⟨Nat.le_of_ble_eq_true rfl, Nat.le_of_ble_eq_true rfl⟩) ⟨fun a U g mk q => by obtain ⟨q0, q1, qP, qK, qD⟩ := q; exact ⟨q0, q1, qP, va_K.moved (u := U) (U := U.calling g mk a) (Vm.Alike.refl U.vm) qK, qD⟩, va_recv hK hP (ci := 11) (q0 := 1) rfl rfl, fun U hU hW => ⟨rfl, by rw [hU], by rw [hU]; exact hPc, va_K.moved hW.alike hKc, hDc.weaken (fun _ _ _ _ => trivial)⟩⟩ rfl rfl hl.1 rfl (lv_room (Nat.le_of_ble_eq_true rfl)) dX11_put_16 ⟨Nat.le_of_ble_eq_true rfl, Nat.le_of_ble_eq_true rfl⟩) hS (fun q _ h => hFc q h) hFc (fun r_20 u t H1 locs ht hvm hw hB hz1 hk1 hS => ?_)
    obtain ⟨hP1, hK1, hD1⟩ := hB
    rw [ht] at hP1
    try dsimp only at hw
    obtain ⟨hP, hD⟩ := va_join (wr := [(rd, .inr (4, [.ref lenses_, .int 0, .int 0, .int 0, .int (-1), .int (-1), .ref tp, .ref names_, .ref quoted_, .ref links_, .ref walker2_, .int 0, .int 0, .int 0]))]) (w1 := [(h0, .inr (11, [.ref sl, .ref walker_, .ref rd, .ref machine_, .ref trial_, .ref dk])), (sl, .inl (cT, 8, .inr (.inr (.inr (.inr fT)))))]) hP hD [1, 2] [0] rfl rfl (by decide) (by decide) hk1 hFc hP1 hD1
    clear hk1 hz1 hPc hDc hFc hP1 hD1 hK1 hKc
    generalize H1 = H at hP hS ⊢
    have hP : va_P (dC, dI) cls [(rd, .inr (4, [.ref lenses_, .int 0, .int 0, .int 0, .int (-1), .int (-1), .ref tp, .ref names_, .ref quoted_, .ref links_, .ref walker2_, .int 0, .int 0, .int 0])), (h0, .inr (11, [.ref sl, .ref walker_, .ref rd, .ref machine_, .ref trial_, .ref dk])), (sl, .inl (cT, 8, .inr (.inr (.inr (.inr fT)))))] H := hP
    have hD : va_D A [(rd, .inr (4, [.ref lenses_, .int 0, .int 0, .int 0, .int (-1), .int (-1), .ref tp, .ref names_, .ref quoted_, .ref links_, .ref walker2_, .int 0, .int 0, .int 0])), (h0, .inr (11, [.ref sl, .ref walker_, .ref rd, .ref machine_, .ref trial_, .ref dk])), (sl, .inl (cT, 8, .inr (.inr (.inr (.inr fT)))))] := hD
    rcases hw with ⟨f_21, rfl⟩ | ⟨f_21, rfl⟩
    · skip
      obtain ⟨t_22, et_22⟩ := hf v3 f_21
      refine W.eq (g2 := F0 m 19 ls [.ref t_22]) (by rw [et_22]; rfl) ?_
      refine lv_astore (lv' := [(7, .ref t_22), (6, .null), (5, .null), (0, .ref h0), (1, .int v1), (2, .int v2), (3, .int v3), (4, .int v4)]) hx hb dX11_put_19 hl (by decide) rfl (fun ls hl => ?_)
      refine lv_aload_n hx hb dX11_put_21 rfl (lv_at hl 3 rfl) ?_
      refine lv_iload hx hb dX11_put_22 (lv_at hl 7 rfl) ?_
      have hPc := hP.sub (ws' := [(h0, .inr (11, [.ref sl, .ref walker_, .ref rd, .ref machine_, .ref trial_, .ref dk])), (sl, .inl (cT, 8, .inr (.inr (.inr (.inr fT)))))]) [1, 2] rfl
      have hDc := hD.sub (ws' := [(h0, .inr (11, [.ref sl, .ref walker_, .ref rd, .ref machine_, .ref trial_, .ref dk])), (sl, .inl (cT, 8, .inr (.inr (.inr (.inr fT)))))]) [1, 2] (by decide) rfl
      have hKc := hK.sub (tys' := [(cT, .object RX6)]) [0] rfl
      have hFc := va_free (wc := [(h0, .inr (11, [.ref sl, .ref walker_, .ref rd, .ref machine_, .ref trial_, .ref dk])), (sl, .inl (cT, 8, .inr (.inr (.inr (.inr fT)))))]) hD hS hA [1, 2] rfl
      refine va_callq (va_runV (As := [.int v4]) (rest := []) ⟨hx, hb, hml, hown, hts⟩ (k_slotAt l dC dI H.size h0 v4 sl walker_ rd machine_ trial_ dk cT fT hf) (cwV 1 hts gk_put_74 rfl rfl rfl (by decide +kernel) ⟨Nat.le_of_ble_eq_true rfl, Nat.le_of_ble_eq_true rfl⟩) ⟨fun a U g mk q => by obtain ⟨q0, q1, qP, qK, qD⟩ := q; exact ⟨q0, q1, qP, va_K.moved (u := U) (U := U.calling g mk a) (Vm.Alike.refl U.vm) qK, qD⟩, va_recv hK hP (ci := 11) (q0 := 1) rfl rfl, fun U hU hW => ⟨rfl, by rw [hU], by rw [hU]; exact hPc, va_K.moved hW.alike hKc, hDc.weaken (fun _ _ _ _ => trivial)⟩⟩ rfl rfl hl.1 rfl (lv_room (Nat.le_of_ble_eq_true rfl)) dX11_put_24 ⟨Nat.le_of_ble_eq_true rfl, Nat.le_of_ble_eq_true rfl⟩) hS (fun q _ h => hFc q h) hFc (fun r_24 u t H1 locs ht hvm hw hB hz1 hk1 hS => ?_)
      obtain ⟨hP1, hK1, hD1⟩ := hB
      rw [ht] at hP1
      try dsimp only at hw
      obtain ⟨hP, hD⟩ := va_join (wr := [(rd, .inr (4, [.ref lenses_, .int 0, .int 0, .int 0, .int (-1), .int (-1), .ref tp, .ref names_, .ref quoted_, .ref links_, .ref walker2_, .int 0, .int 0, .int 0]))]) (w1 := [(h0, .inr (11, [.ref sl, .ref walker_, .ref rd, .ref machine_, .ref trial_, .ref dk])), (sl, .inl (cT, 8, .inr (.inr (.inr (.inr fT)))))]) hP hD [1, 2] [0] rfl rfl (by decide) (by decide) hk1 hFc hP1 hD1
      clear hk1 hz1 hPc hDc hFc hP1 hD1 hK1 hKc
      generalize H1 = H at hP hS ⊢
      have hP : va_P (dC, dI) cls [(rd, .inr (4, [.ref lenses_, .int 0, .int 0, .int 0, .int (-1), .int (-1), .ref tp, .ref names_, .ref quoted_, .ref links_, .ref walker2_, .int 0, .int 0, .int 0])), (h0, .inr (11, [.ref sl, .ref walker_, .ref rd, .ref machine_, .ref trial_, .ref dk])), (sl, .inl (cT, 8, .inr (.inr (.inr (.inr fT)))))] H := hP
      have hD : va_D A [(rd, .inr (4, [.ref lenses_, .int 0, .int 0, .int 0, .int (-1), .int (-1), .ref tp, .ref names_, .ref quoted_, .ref links_, .ref walker2_, .int 0, .int 0, .int 0])), (h0, .inr (11, [.ref sl, .ref walker_, .ref rd, .ref machine_, .ref trial_, .ref dk])), (sl, .inl (cT, 8, .inr (.inr (.inr (.inr fT)))))] := hD
      rcases hw with ⟨f_25, rfl⟩ | ⟨f_25, rfl⟩
      · skip
        obtain ⟨t_26, et_26⟩ := hf v4 f_25
        refine W.eq (g2 := F0 m 27 ls [.ref t_26]) (by rw [et_26]; rfl) ?_
        refine lv_astore (lv' := [(8, .ref t_26), (7, .ref t_22), (6, .null), (5, .null), (0, .ref h0), (1, .int v1), (2, .int v2), (3, .int v3), (4, .int v4)]) hx hb dX11_put_27 hl (by decide) rfl (fun ls hl => ?_)
        refine lv_aloadN hx hb dX11_put_29 (lv_at hl 3 rfl) ?_
        refine lv_ifnullN (tgt := 49) hx hb dX11_put_31 (by decide) ?_
        refine lv_iconst (v := (-1)) hx hb dX11_put_49 (by decide) ?_
        have hK9 := hK.sub (tys' := [(cT, .object RX6)]) [0] rfl
        have hP9 := hP.sub (ws' := []) [] rfl
        have hD9 := hD.sub (ws' := []) [] (by decide) rfl
        exact W.iret (v := (-1)) hx hb hr (fun t ht hW => ⟨⟨(-1), (), rfl, rfl, by rw [ht]; exact hP9, va_K.moved hW.alike hK9, hD9⟩, hS.F ht⟩) hS.2.2 dX11_put_50
      · skip
        refine W.eq (g2 := F0 m 27 ls [.null]) rfl ?_
        refine lv_astoreN (lv' := [(8, .null), (7, .ref t_22), (6, .null), (5, .null), (0, .ref h0), (1, .int v1), (2, .int v2), (3, .int v3), (4, .int v4)]) hx hb dX11_put_27 hl (by decide) rfl (fun ls hl => ?_)
        refine lv_aloadN hx hb dX11_put_29 (lv_at hl 3 rfl) ?_
        refine lv_ifnullN (tgt := 49) hx hb dX11_put_31 (by decide) ?_
        refine lv_iconst (v := (-1)) hx hb dX11_put_49 (by decide) ?_
        have hK9 := hK.sub (tys' := [(cT, .object RX6)]) [0] rfl
        have hP9 := hP.sub (ws' := []) [] rfl
        have hD9 := hD.sub (ws' := []) [] (by decide) rfl
        exact W.iret (v := (-1)) hx hb hr (fun t ht hW => ⟨⟨(-1), (), rfl, rfl, by rw [ht]; exact hP9, va_K.moved hW.alike hK9, hD9⟩, hS.F ht⟩) hS.2.2 dX11_put_50
    · skip
      refine W.eq (g2 := F0 m 19 ls [.null]) rfl ?_
      refine lv_astoreN (lv' := [(7, .null), (6, .null), (5, .null), (0, .ref h0), (1, .int v1), (2, .int v2), (3, .int v3), (4, .int v4)]) hx hb dX11_put_19 hl (by decide) rfl (fun ls hl => ?_)
      refine lv_aload_n hx hb dX11_put_21 rfl (lv_at hl 3 rfl) ?_
      refine lv_iload hx hb dX11_put_22 (lv_at hl 7 rfl) ?_
      have hPc := hP.sub (ws' := [(h0, .inr (11, [.ref sl, .ref walker_, .ref rd, .ref machine_, .ref trial_, .ref dk])), (sl, .inl (cT, 8, .inr (.inr (.inr (.inr fT)))))]) [1, 2] rfl
      have hDc := hD.sub (ws' := [(h0, .inr (11, [.ref sl, .ref walker_, .ref rd, .ref machine_, .ref trial_, .ref dk])), (sl, .inl (cT, 8, .inr (.inr (.inr (.inr fT)))))]) [1, 2] (by decide) rfl
      have hKc := hK.sub (tys' := [(cT, .object RX6)]) [0] rfl
      have hFc := va_free (wc := [(h0, .inr (11, [.ref sl, .ref walker_, .ref rd, .ref machine_, .ref trial_, .ref dk])), (sl, .inl (cT, 8, .inr (.inr (.inr (.inr fT)))))]) hD hS hA [1, 2] rfl
      refine va_callq (va_runV (As := [.int v4]) (rest := []) ⟨hx, hb, hml, hown, hts⟩ (k_slotAt l dC dI H.size h0 v4 sl walker_ rd machine_ trial_ dk cT fT hf) (cwV 1 hts gk_put_74 rfl rfl rfl (by decide +kernel) ⟨Nat.le_of_ble_eq_true rfl, Nat.le_of_ble_eq_true rfl⟩) ⟨fun a U g mk q => by obtain ⟨q0, q1, qP, qK, qD⟩ := q; exact ⟨q0, q1, qP, va_K.moved (u := U) (U := U.calling g mk a) (Vm.Alike.refl U.vm) qK, qD⟩, va_recv hK hP (ci := 11) (q0 := 1) rfl rfl, fun U hU hW => ⟨rfl, by rw [hU], by rw [hU]; exact hPc, va_K.moved hW.alike hKc, hDc.weaken (fun _ _ _ _ => trivial)⟩⟩ rfl rfl hl.1 rfl (lv_room (Nat.le_of_ble_eq_true rfl)) dX11_put_24 ⟨Nat.le_of_ble_eq_true rfl, Nat.le_of_ble_eq_true rfl⟩) hS (fun q _ h => hFc q h) hFc (fun r_28 u t H1 locs ht hvm hw hB hz1 hk1 hS => ?_)
      obtain ⟨hP1, hK1, hD1⟩ := hB
      rw [ht] at hP1
      try dsimp only at hw
      obtain ⟨hP, hD⟩ := va_join (wr := [(rd, .inr (4, [.ref lenses_, .int 0, .int 0, .int 0, .int (-1), .int (-1), .ref tp, .ref names_, .ref quoted_, .ref links_, .ref walker2_, .int 0, .int 0, .int 0]))]) (w1 := [(h0, .inr (11, [.ref sl, .ref walker_, .ref rd, .ref machine_, .ref trial_, .ref dk])), (sl, .inl (cT, 8, .inr (.inr (.inr (.inr fT)))))]) hP hD [1, 2] [0] rfl rfl (by decide) (by decide) hk1 hFc hP1 hD1
      clear hk1 hz1 hPc hDc hFc hP1 hD1 hK1 hKc
      generalize H1 = H at hP hS ⊢
      have hP : va_P (dC, dI) cls [(rd, .inr (4, [.ref lenses_, .int 0, .int 0, .int 0, .int (-1), .int (-1), .ref tp, .ref names_, .ref quoted_, .ref links_, .ref walker2_, .int 0, .int 0, .int 0])), (h0, .inr (11, [.ref sl, .ref walker_, .ref rd, .ref machine_, .ref trial_, .ref dk])), (sl, .inl (cT, 8, .inr (.inr (.inr (.inr fT)))))] H := hP
      have hD : va_D A [(rd, .inr (4, [.ref lenses_, .int 0, .int 0, .int 0, .int (-1), .int (-1), .ref tp, .ref names_, .ref quoted_, .ref links_, .ref walker2_, .int 0, .int 0, .int 0])), (h0, .inr (11, [.ref sl, .ref walker_, .ref rd, .ref machine_, .ref trial_, .ref dk])), (sl, .inl (cT, 8, .inr (.inr (.inr (.inr fT)))))] := hD
      rcases hw with ⟨f_29, rfl⟩ | ⟨f_29, rfl⟩
      · skip
        obtain ⟨t_30, et_30⟩ := hf v4 f_29
        refine W.eq (g2 := F0 m 27 ls [.ref t_30]) (by rw [et_30]; rfl) ?_
        refine lv_astore (lv' := [(8, .ref t_30), (7, .null), (6, .null), (5, .null), (0, .ref h0), (1, .int v1), (2, .int v2), (3, .int v3), (4, .int v4)]) hx hb dX11_put_27 hl (by decide) rfl (fun ls hl => ?_)
        refine lv_aloadN hx hb dX11_put_29 (lv_at hl 3 rfl) ?_
        refine lv_ifnullN (tgt := 49) hx hb dX11_put_31 (by decide) ?_
        refine lv_iconst (v := (-1)) hx hb dX11_put_49 (by decide) ?_
        have hK9 := hK.sub (tys' := [(cT, .object RX6)]) [0] rfl
        have hP9 := hP.sub (ws' := []) [] rfl
        have hD9 := hD.sub (ws' := []) [] (by decide) rfl
        exact W.iret (v := (-1)) hx hb hr (fun t ht hW => ⟨⟨(-1), (), rfl, rfl, by rw [ht]; exact hP9, va_K.moved hW.alike hK9, hD9⟩, hS.F ht⟩) hS.2.2 dX11_put_50
      · skip
        refine W.eq (g2 := F0 m 27 ls [.null]) rfl ?_
        refine lv_astoreN (lv' := [(8, .null), (7, .null), (6, .null), (5, .null), (0, .ref h0), (1, .int v1), (2, .int v2), (3, .int v3), (4, .int v4)]) hx hb dX11_put_27 hl (by decide) rfl (fun ls hl => ?_)
        refine lv_aloadN hx hb dX11_put_29 (lv_at hl 3 rfl) ?_
        refine lv_ifnullN (tgt := 49) hx hb dX11_put_31 (by decide) ?_
        refine lv_iconst (v := (-1)) hx hb dX11_put_49 (by decide) ?_
        have hK9 := hK.sub (tys' := [(cT, .object RX6)]) [0] rfl
        have hP9 := hP.sub (ws' := []) [] rfl
        have hD9 := hD.sub (ws' := []) [] (by decide) rfl
        exact W.iret (v := (-1)) hx hb hr (fun t ht hW => ⟨⟨(-1), (), rfl, rfl, by rw [ht]; exact hP9, va_K.moved hW.alike hK9, hD9⟩, hS.F ht⟩) hS.2.2 dX11_put_50
def wk_create : List Cond := .code yX11_create cX11_create 7 (some .int) :: ([.methodLink RX11 105 yX11_lensAt, .instanceMethod yX11_lensAt, .selects RX11 yX11_lensAt yX11_lensAt, .initialized RX11, .code yX11_lensAt cX11_lensAt 2 (some (.object "PutBack$Lens")), .fieldLink RX11 27 "PutBack" "reader" "LPutBack$Reader;", .fieldLink RX11 259 "PutBack$Reader" "told" "I", .methodLink RX11 74 yX11_slotAt, .instanceMethod yX11_slotAt, .selects RX11 yX11_slotAt yX11_slotAt, .code yX11_slotAt cX11_slotAt 2 (some (.object "PutBack$Text")), .fieldLink RX11 11 "PutBack" "slots" "[LPutBack$Text;"] ++ wsX40 ++ wsX110)
theorem ik_create_RX4 : ∀ w ∈ u_ws RX4 TX4 14, w ∈ wk_create := fun w h => List.mem_cons_of_mem _ (List.mem_append_left _ (List.mem_append_right _ h))
theorem ik_create_RX11 : ∀ w ∈ u_ws RX11 TX11 6, w ∈ wk_create := fun w h => List.mem_cons_of_mem _ (List.mem_append_right _ h)
theorem gk_create_105g : GoodIn wk_create wk_lensAt := goodIn_r _ [5, 6, 7, 13, 14, 15, 16, 17, 18, 19, 20, 21, 22, 23, 24, 25, 26, 27, 28, 29, 30, 31, 32] (by decide +kernel) (by decide +kernel)
theorem gk_create_105 : GoodIn wk_create (wsV RX11 105 RX11 yX11_lensAt wk_lensAt) := goodIn_app (goodIn_of _ (by decide +kernel)) gk_create_105g
theorem gk_create_74g : GoodIn wk_create wk_slotAt := goodIn_r _ [11, 12, 27, 28, 29, 30, 31, 32] (by decide +kernel) (by decide +kernel)
theorem gk_create_74 : GoodIn wk_create (wsV RX11 74 RX11 yX11_slotAt wk_slotAt) := goodIn_app (goodIn_of _ (by decide +kernel)) gk_create_74g
set_option maxHeartbeats 4000000 in
set_option maxRecDepth 100000 in
theorem k_create (l : Launch) (dC : Nat → ClassId) (dI : Nat → Nat → Nat) (sz : Nat) (h0 : Nat) (v1 : Int32) (v2 : Int32) (v3 : Int32) (sl : Nat) (walker_ : Nat) (rd : Nat) (machine_ : Nat) (trial_ : Nat) (dk : Nat) (cT : ClassId) (fT : Nat → Option Nat) (lenses_ : Nat) (tp : Nat) (names_ : Nat) (quoted_ : Nat) (links_ : Nat) (walker2_ : Nat) (hf : ∀ i : Int32, inS i → ∃ t, fT i.toNatClampNeg = some t) : Met l yX11_create wk_create ({ frames := 1, cells := 0, slots := 0, locals := 21 } : Room) (va_Pc [.ref h0, .int v1, .int v2, .int v3] (fun U => U.heap.size = sz ∧ va_P (dC, dI) cls [(h0, .inr (11, [.ref sl, .ref walker_, .ref rd, .ref machine_, .ref trial_, .ref dk])), (sl, .inl (cT, 8, .inr (.inr (.inr (.inr fT))))), (rd, .inr (4, [.ref lenses_, .int 0, .int 0, .int 0, .int (-1), .int (-1), .ref tp, .ref names_, .ref quoted_, .ref links_, .ref walker2_, .int 0, .int 0, .int 0]))] U.heap ∧ va_K (dC, dI) cls [(cT, .object RX6)] U ∧ va_D (fun _ => True) [(h0, .inr (11, [.ref sl, .ref walker_, .ref rd, .ref machine_, .ref trial_, .ref dk])), (sl, .inl (cT, 8, .inr (.inr (.inr (.inr fT))))), (rd, .inr (4, [.ref lenses_, .int 0, .int 0, .int 0, .int (-1), .int (-1), .ref tp, .ref names_, .ref quoted_, .ref links_, .ref walker2_, .int 0, .int 0, .int 0]))])) (va_Qi (fun (r : Int32) (_ : Unit) => r = -1) (fun (_ : Unit) t => va_P (dC, dI) cls [] t.heap ∧ va_K (dC, dI) cls [(cT, .object RX6)] t ∧ va_D (va_A [(h0, .inr (11, [.ref sl, .ref walker_, .ref rd, .ref machine_, .ref trial_, .ref dk])), (sl, .inl (cT, 8, .inr (.inr (.inr (.inr fT))))), (rd, .inr (4, [.ref lenses_, .int 0, .int 0, .int 0, .int (-1), .int (-1), .ref tp, .ref names_, .ref quoted_, .ref links_, .ref walker2_, .int 0, .int 0, .int 0]))] sz) []) (va_A [(h0, .inr (11, [.ref sl, .ref walker_, .ref rd, .ref machine_, .ref trial_, .ref dk])), (sl, .inl (cT, 8, .inr (.inr (.inr (.inr fT))))), (rd, .inr (4, [.ref lenses_, .int 0, .int 0, .int 0, .int (-1), .int (-1), .ref tp, .ref names_, .ref quoted_, .ref links_, .ref walker2_, .int 0, .int 0, .int 0]))] sz)) 0 0 (va_A [(h0, .inr (11, [.ref sl, .ref walker_, .ref rd, .ref machine_, .ref trial_, .ref dk])), (sl, .inl (cT, 8, .inr (.inr (.inr (.inr fT))))), (rd, .inr (4, [.ref lenses_, .int 0, .int 0, .int 0, .int (-1), .int (-1), .ref tp, .ref names_, .ref quoted_, .ref links_, .ref walker2_, .int 0, .int 0, .int 0]))] sz) := by
  refine Met.ofW (cc := cX11_create) (maxL := 7) (ret := (some .int)) (by decide) rfl ?_
  intro p e s m args below meth c s₁ B hml hv
  obtain ⟨rfl, hsz, hP, hK, hD0⟩ := hv
  have hx := B.exec
  have hb := B.bytes
  have hr := B.returns
  have hts := atoms_spec (ws := wk_create) B.pre
  have hown : s.vm.findClass RX11 = some m.cls := findClass_of_methodNamed B.named
  have hlocks := B.notSynchronized
  subst hsz
  have hD := hD0.self (sz := s.heap.size)
  generalize hAe : va_A [(h0, .inr (11, [.ref sl, .ref walker_, .ref rd, .ref machine_, .ref trial_, .ref dk])), (sl, .inl (cT, 8, .inr (.inr (.inr (.inr fT))))), (rd, .inr (4, [.ref lenses_, .int 0, .int 0, .int 0, .int (-1), .int (-1), .ref tp, .ref names_, .ref quoted_, .ref links_, .ref walker2_, .int 0, .int 0, .int 0]))] s.heap.size = A at hD ⊢
  have hA : ∀ q : Nat, s.heap.size ≤ q → A q := fun q h => by rw [← hAe]; exact Or.inr h
  have hP : va_P (dC, dI) cls [(h0, .inr (11, [.ref sl, .ref walker_, .ref rd, .ref machine_, .ref trial_, .ref dk])), (sl, .inl (cT, 8, .inr (.inr (.inr (.inr fT))))), (rd, .inr (4, [.ref lenses_, .int 0, .int 0, .int 0, .int (-1), .int (-1), .ref tp, .ref names_, .ref quoted_, .ref links_, .ref walker2_, .int 0, .int 0, .int 0]))] s.heap := hP
  have hl := lv_entry ([.ref h0, .int v1, .int v2, .int v3]) (n := 7) (Nat.le_of_ble_eq_true rfl)
  rw [lg_entry_eq]
  generalize (lg_sl ([.ref h0, .int v1, .int v2, .int v3]) ++ List.replicate (7 - (lg_sl ([.ref h0, .int v1, .int v2, .int v3])).length) Slot.unset).toArray = ls at hl ⊢
  have hl : lv_has ls 7 [(0, .ref h0), (1, .int v1), (2, .int v2), (3, .int v3)] := hl
  obtain ⟨H, hH⟩ : ∃ H : Heap, s.heap = H := ⟨_, rfl⟩
  rw [hH] at hP ⊢
  have hS : va_S A s.heap H [] := by rw [← hH]; exact va_S.rf
  refine lv_aload_n hx hb dX11_create_0 rfl (lv_at hl 0 rfl) ?_
  refine lv_iload_n hx hb dX11_create_1 rfl (lv_at hl 1 rfl) ?_
  have hPc := hP.sub (ws' := [(h0, .inr (11, [.ref sl, .ref walker_, .ref rd, .ref machine_, .ref trial_, .ref dk])), (rd, .inr (4, [.ref lenses_, .int 0, .int 0, .int 0, .int (-1), .int (-1), .ref tp, .ref names_, .ref quoted_, .ref links_, .ref walker2_, .int 0, .int 0, .int 0]))]) [0, 2] rfl
  have hDc := hD.sub (ws' := [(h0, .inr (11, [.ref sl, .ref walker_, .ref rd, .ref machine_, .ref trial_, .ref dk])), (rd, .inr (4, [.ref lenses_, .int 0, .int 0, .int 0, .int (-1), .int (-1), .ref tp, .ref names_, .ref quoted_, .ref links_, .ref walker2_, .int 0, .int 0, .int 0]))]) [0, 2] (by decide) rfl
  have hKc := hK.sub (tys' := []) [] rfl
  have hFc := va_free (wc := [(h0, .inr (11, [.ref sl, .ref walker_, .ref rd, .ref machine_, .ref trial_, .ref dk])), (rd, .inr (4, [.ref lenses_, .int 0, .int 0, .int 0, .int (-1), .int (-1), .ref tp, .ref names_, .ref quoted_, .ref links_, .ref walker2_, .int 0, .int 0, .int 0]))]) hD hS hA [0, 2] rfl
  refine va_callq (va_runV (As := [.int v1]) (rest := []) ⟨hx, hb, hml, hown, hts⟩ (k_lensAt l dC dI H.size h0 v1 sl walker_ rd machine_ trial_ dk lenses_ tp names_ quoted_ links_ walker2_) (cwV 1 hts gk_create_105 rfl rfl rfl (by decide +kernel) ⟨Nat.le_of_ble_eq_true rfl, Nat.le_of_ble_eq_true rfl⟩) ⟨fun a U g mk q => by obtain ⟨q0, q1, qP, qK, qD⟩ := q; exact ⟨q0, q1, qP, va_K.moved (u := U) (U := U.calling g mk a) (Vm.Alike.refl U.vm) qK, qD⟩, va_recv hK hP (ci := 11) (q0 := 0) rfl rfl, fun U hU hW => ⟨rfl, by rw [hU], by rw [hU]; exact hPc, va_K.moved hW.alike hKc, hDc.weaken (fun _ _ _ _ => trivial)⟩⟩ rfl rfl hl.1 rfl (lv_room (Nat.le_of_ble_eq_true rfl)) dX11_create_2 ⟨Nat.le_of_ble_eq_true rfl, Nat.le_of_ble_eq_true rfl⟩) hS (fun q _ h => hFc q h) hFc (fun r_2 u t H1 locs ht hvm hw hB hz1 hk1 hS => ?_)
  obtain ⟨hP1, hK1, hD1⟩ := hB
  rw [ht] at hP1
  try dsimp only at hw
  obtain ⟨hP, hD⟩ := va_join (wr := [(sl, .inl (cT, 8, .inr (.inr (.inr (.inr fT)))))]) (w1 := [(h0, .inr (11, [.ref sl, .ref walker_, .ref rd, .ref machine_, .ref trial_, .ref dk])), (rd, .inr (4, [.ref lenses_, .int 0, .int 0, .int 0, .int (-1), .int (-1), .ref tp, .ref names_, .ref quoted_, .ref links_, .ref walker2_, .int 0, .int 0, .int 0]))]) hP hD [0, 2] [1] rfl rfl (by decide) (by decide) hk1 hFc hP1 hD1
  clear hk1 hz1 hPc hDc hFc hP1 hD1 hK1 hKc
  generalize H1 = H at hP hS ⊢
  have hP : va_P (dC, dI) cls [(sl, .inl (cT, 8, .inr (.inr (.inr (.inr fT))))), (h0, .inr (11, [.ref sl, .ref walker_, .ref rd, .ref machine_, .ref trial_, .ref dk])), (rd, .inr (4, [.ref lenses_, .int 0, .int 0, .int 0, .int (-1), .int (-1), .ref tp, .ref names_, .ref quoted_, .ref links_, .ref walker2_, .int 0, .int 0, .int 0]))] H := hP
  have hD : va_D A [(sl, .inl (cT, 8, .inr (.inr (.inr (.inr fT))))), (h0, .inr (11, [.ref sl, .ref walker_, .ref rd, .ref machine_, .ref trial_, .ref dk])), (rd, .inr (4, [.ref lenses_, .int 0, .int 0, .int 0, .int (-1), .int (-1), .ref tp, .ref names_, .ref quoted_, .ref links_, .ref walker2_, .int 0, .int 0, .int 0]))] := hD
  obtain rfl := hw
  refine W.eq (g2 := F0 m 5 ls [.null]) rfl ?_
  refine lv_astoreN (lv' := [(4, .null), (0, .ref h0), (1, .int v1), (2, .int v2), (3, .int v3)]) hx hb dX11_create_5 hl (by decide) rfl (fun ls hl => ?_)
  refine lv_aload_n hx hb dX11_create_7 rfl (lv_at hl 1 rfl) ?_
  refine lv_iload_n hx hb dX11_create_8 rfl (lv_at hl 3 rfl) ?_
  have hPc := hP.sub (ws' := [(h0, .inr (11, [.ref sl, .ref walker_, .ref rd, .ref machine_, .ref trial_, .ref dk])), (sl, .inl (cT, 8, .inr (.inr (.inr (.inr fT)))))]) [1, 0] rfl
  have hDc := hD.sub (ws' := [(h0, .inr (11, [.ref sl, .ref walker_, .ref rd, .ref machine_, .ref trial_, .ref dk])), (sl, .inl (cT, 8, .inr (.inr (.inr (.inr fT)))))]) [1, 0] (by decide) rfl
  have hKc := hK.sub (tys' := [(cT, .object RX6)]) [0] rfl
  have hFc := va_free (wc := [(h0, .inr (11, [.ref sl, .ref walker_, .ref rd, .ref machine_, .ref trial_, .ref dk])), (sl, .inl (cT, 8, .inr (.inr (.inr (.inr fT)))))]) hD hS hA [1, 0] rfl
  refine va_callq (va_runV (As := [.int v2]) (rest := []) ⟨hx, hb, hml, hown, hts⟩ (k_slotAt l dC dI H.size h0 v2 sl walker_ rd machine_ trial_ dk cT fT hf) (cwV 1 hts gk_create_74 rfl rfl rfl (by decide +kernel) ⟨Nat.le_of_ble_eq_true rfl, Nat.le_of_ble_eq_true rfl⟩) ⟨fun a U g mk q => by obtain ⟨q0, q1, qP, qK, qD⟩ := q; exact ⟨q0, q1, qP, va_K.moved (u := U) (U := U.calling g mk a) (Vm.Alike.refl U.vm) qK, qD⟩, va_recv hK hP (ci := 11) (q0 := 1) rfl rfl, fun U hU hW => ⟨rfl, by rw [hU], by rw [hU]; exact hPc, va_K.moved hW.alike hKc, hDc.weaken (fun _ _ _ _ => trivial)⟩⟩ rfl rfl hl.1 rfl (lv_room (Nat.le_of_ble_eq_true rfl)) dX11_create_9 ⟨Nat.le_of_ble_eq_true rfl, Nat.le_of_ble_eq_true rfl⟩) hS (fun q _ h => hFc q h) hFc (fun r_4 u t H1 locs ht hvm hw hB hz1 hk1 hS => ?_)
  obtain ⟨hP1, hK1, hD1⟩ := hB
  rw [ht] at hP1
  try dsimp only at hw
  obtain ⟨hP, hD⟩ := va_join (wr := [(rd, .inr (4, [.ref lenses_, .int 0, .int 0, .int 0, .int (-1), .int (-1), .ref tp, .ref names_, .ref quoted_, .ref links_, .ref walker2_, .int 0, .int 0, .int 0]))]) (w1 := [(h0, .inr (11, [.ref sl, .ref walker_, .ref rd, .ref machine_, .ref trial_, .ref dk])), (sl, .inl (cT, 8, .inr (.inr (.inr (.inr fT)))))]) hP hD [1, 0] [2] rfl rfl (by decide) (by decide) hk1 hFc hP1 hD1
  clear hk1 hz1 hPc hDc hFc hP1 hD1 hK1 hKc
  generalize H1 = H at hP hS ⊢
  have hP : va_P (dC, dI) cls [(rd, .inr (4, [.ref lenses_, .int 0, .int 0, .int 0, .int (-1), .int (-1), .ref tp, .ref names_, .ref quoted_, .ref links_, .ref walker2_, .int 0, .int 0, .int 0])), (h0, .inr (11, [.ref sl, .ref walker_, .ref rd, .ref machine_, .ref trial_, .ref dk])), (sl, .inl (cT, 8, .inr (.inr (.inr (.inr fT)))))] H := hP
  have hD : va_D A [(rd, .inr (4, [.ref lenses_, .int 0, .int 0, .int 0, .int (-1), .int (-1), .ref tp, .ref names_, .ref quoted_, .ref links_, .ref walker2_, .int 0, .int 0, .int 0])), (h0, .inr (11, [.ref sl, .ref walker_, .ref rd, .ref machine_, .ref trial_, .ref dk])), (sl, .inl (cT, 8, .inr (.inr (.inr (.inr fT)))))] := hD
  rcases hw with ⟨f_5, rfl⟩ | ⟨f_5, rfl⟩
  · skip
    obtain ⟨t_6, et_6⟩ := hf v2 f_5
    refine W.eq (g2 := F0 m 12 ls [.ref t_6]) (by rw [et_6]; rfl) ?_
    refine lv_astore (lv' := [(5, .ref t_6), (4, .null), (0, .ref h0), (1, .int v1), (2, .int v2), (3, .int v3)]) hx hb dX11_create_12 hl (by decide) rfl (fun ls hl => ?_)
    refine lv_aload_n hx hb dX11_create_14 rfl (lv_at hl 2 rfl) ?_
    refine lv_iload_n hx hb dX11_create_15 rfl (lv_at hl 5 rfl) ?_
    have hPc := hP.sub (ws' := [(h0, .inr (11, [.ref sl, .ref walker_, .ref rd, .ref machine_, .ref trial_, .ref dk])), (sl, .inl (cT, 8, .inr (.inr (.inr (.inr fT)))))]) [1, 2] rfl
    have hDc := hD.sub (ws' := [(h0, .inr (11, [.ref sl, .ref walker_, .ref rd, .ref machine_, .ref trial_, .ref dk])), (sl, .inl (cT, 8, .inr (.inr (.inr (.inr fT)))))]) [1, 2] (by decide) rfl
    have hKc := hK.sub (tys' := [(cT, .object RX6)]) [0] rfl
    have hFc := va_free (wc := [(h0, .inr (11, [.ref sl, .ref walker_, .ref rd, .ref machine_, .ref trial_, .ref dk])), (sl, .inl (cT, 8, .inr (.inr (.inr (.inr fT)))))]) hD hS hA [1, 2] rfl
    refine va_callq (va_runV (As := [.int v3]) (rest := []) ⟨hx, hb, hml, hown, hts⟩ (k_slotAt l dC dI H.size h0 v3 sl walker_ rd machine_ trial_ dk cT fT hf) (cwV 1 hts gk_create_74 rfl rfl rfl (by decide +kernel) ⟨Nat.le_of_ble_eq_true rfl, Nat.le_of_ble_eq_true rfl⟩) ⟨fun a U g mk q => by obtain ⟨q0, q1, qP, qK, qD⟩ := q; exact ⟨q0, q1, qP, va_K.moved (u := U) (U := U.calling g mk a) (Vm.Alike.refl U.vm) qK, qD⟩, va_recv hK hP (ci := 11) (q0 := 1) rfl rfl, fun U hU hW => ⟨rfl, by rw [hU], by rw [hU]; exact hPc, va_K.moved hW.alike hKc, hDc.weaken (fun _ _ _ _ => trivial)⟩⟩ rfl rfl hl.1 rfl (lv_room (Nat.le_of_ble_eq_true rfl)) dX11_create_16 ⟨Nat.le_of_ble_eq_true rfl, Nat.le_of_ble_eq_true rfl⟩) hS (fun q _ h => hFc q h) hFc (fun r_8 u t H1 locs ht hvm hw hB hz1 hk1 hS => ?_)
    obtain ⟨hP1, hK1, hD1⟩ := hB
    rw [ht] at hP1
    try dsimp only at hw
    obtain ⟨hP, hD⟩ := va_join (wr := [(rd, .inr (4, [.ref lenses_, .int 0, .int 0, .int 0, .int (-1), .int (-1), .ref tp, .ref names_, .ref quoted_, .ref links_, .ref walker2_, .int 0, .int 0, .int 0]))]) (w1 := [(h0, .inr (11, [.ref sl, .ref walker_, .ref rd, .ref machine_, .ref trial_, .ref dk])), (sl, .inl (cT, 8, .inr (.inr (.inr (.inr fT)))))]) hP hD [1, 2] [0] rfl rfl (by decide) (by decide) hk1 hFc hP1 hD1
    clear hk1 hz1 hPc hDc hFc hP1 hD1 hK1 hKc
    generalize H1 = H at hP hS ⊢
    have hP : va_P (dC, dI) cls [(rd, .inr (4, [.ref lenses_, .int 0, .int 0, .int 0, .int (-1), .int (-1), .ref tp, .ref names_, .ref quoted_, .ref links_, .ref walker2_, .int 0, .int 0, .int 0])), (h0, .inr (11, [.ref sl, .ref walker_, .ref rd, .ref machine_, .ref trial_, .ref dk])), (sl, .inl (cT, 8, .inr (.inr (.inr (.inr fT)))))] H := hP
    have hD : va_D A [(rd, .inr (4, [.ref lenses_, .int 0, .int 0, .int 0, .int (-1), .int (-1), .ref tp, .ref names_, .ref quoted_, .ref links_, .ref walker2_, .int 0, .int 0, .int 0])), (h0, .inr (11, [.ref sl, .ref walker_, .ref rd, .ref machine_, .ref trial_, .ref dk])), (sl, .inl (cT, 8, .inr (.inr (.inr (.inr fT)))))] := hD
    rcases hw with ⟨f_9, rfl⟩ | ⟨f_9, rfl⟩
    · skip
      obtain ⟨t_10, et_10⟩ := hf v3 f_9
      refine W.eq (g2 := F0 m 19 ls [.ref t_10]) (by rw [et_10]; rfl) ?_
      refine lv_astore (lv' := [(6, .ref t_10), (5, .ref t_6), (4, .null), (0, .ref h0), (1, .int v1), (2, .int v2), (3, .int v3)]) hx hb dX11_create_19 hl (by decide) rfl (fun ls hl => ?_)
      refine lv_aloadN hx hb dX11_create_21 (lv_at hl 2 rfl) ?_
      refine lv_ifnullN (tgt := 36) hx hb dX11_create_23 (by decide) ?_
      refine lv_iconst (v := (-1)) hx hb dX11_create_36 (by decide) ?_
      have hK9 := hK.sub (tys' := [(cT, .object RX6)]) [0] rfl
      have hP9 := hP.sub (ws' := []) [] rfl
      have hD9 := hD.sub (ws' := []) [] (by decide) rfl
      exact W.iret (v := (-1)) hx hb hr (fun t ht hW => ⟨⟨(-1), (), rfl, rfl, by rw [ht]; exact hP9, va_K.moved hW.alike hK9, hD9⟩, hS.F ht⟩) hS.2.2 dX11_create_37
    · skip
      refine W.eq (g2 := F0 m 19 ls [.null]) rfl ?_
      refine lv_astoreN (lv' := [(6, .null), (5, .ref t_6), (4, .null), (0, .ref h0), (1, .int v1), (2, .int v2), (3, .int v3)]) hx hb dX11_create_19 hl (by decide) rfl (fun ls hl => ?_)
      refine lv_aloadN hx hb dX11_create_21 (lv_at hl 2 rfl) ?_
      refine lv_ifnullN (tgt := 36) hx hb dX11_create_23 (by decide) ?_
      refine lv_iconst (v := (-1)) hx hb dX11_create_36 (by decide) ?_
      have hK9 := hK.sub (tys' := [(cT, .object RX6)]) [0] rfl
      have hP9 := hP.sub (ws' := []) [] rfl
      have hD9 := hD.sub (ws' := []) [] (by decide) rfl
      exact W.iret (v := (-1)) hx hb hr (fun t ht hW => ⟨⟨(-1), (), rfl, rfl, by rw [ht]; exact hP9, va_K.moved hW.alike hK9, hD9⟩, hS.F ht⟩) hS.2.2 dX11_create_37
  · skip
    refine W.eq (g2 := F0 m 12 ls [.null]) rfl ?_
    refine lv_astoreN (lv' := [(5, .null), (4, .null), (0, .ref h0), (1, .int v1), (2, .int v2), (3, .int v3)]) hx hb dX11_create_12 hl (by decide) rfl (fun ls hl => ?_)
    refine lv_aload_n hx hb dX11_create_14 rfl (lv_at hl 2 rfl) ?_
    refine lv_iload_n hx hb dX11_create_15 rfl (lv_at hl 5 rfl) ?_
    have hPc := hP.sub (ws' := [(h0, .inr (11, [.ref sl, .ref walker_, .ref rd, .ref machine_, .ref trial_, .ref dk])), (sl, .inl (cT, 8, .inr (.inr (.inr (.inr fT)))))]) [1, 2] rfl
    have hDc := hD.sub (ws' := [(h0, .inr (11, [.ref sl, .ref walker_, .ref rd, .ref machine_, .ref trial_, .ref dk])), (sl, .inl (cT, 8, .inr (.inr (.inr (.inr fT)))))]) [1, 2] (by decide) rfl
    have hKc := hK.sub (tys' := [(cT, .object RX6)]) [0] rfl
    have hFc := va_free (wc := [(h0, .inr (11, [.ref sl, .ref walker_, .ref rd, .ref machine_, .ref trial_, .ref dk])), (sl, .inl (cT, 8, .inr (.inr (.inr (.inr fT)))))]) hD hS hA [1, 2] rfl
    refine va_callq (va_runV (As := [.int v3]) (rest := []) ⟨hx, hb, hml, hown, hts⟩ (k_slotAt l dC dI H.size h0 v3 sl walker_ rd machine_ trial_ dk cT fT hf) (cwV 1 hts gk_create_74 rfl rfl rfl (by decide +kernel) ⟨Nat.le_of_ble_eq_true rfl, Nat.le_of_ble_eq_true rfl⟩) ⟨fun a U g mk q => by obtain ⟨q0, q1, qP, qK, qD⟩ := q; exact ⟨q0, q1, qP, va_K.moved (u := U) (U := U.calling g mk a) (Vm.Alike.refl U.vm) qK, qD⟩, va_recv hK hP (ci := 11) (q0 := 1) rfl rfl, fun U hU hW => ⟨rfl, by rw [hU], by rw [hU]; exact hPc, va_K.moved hW.alike hKc, hDc.weaken (fun _ _ _ _ => trivial)⟩⟩ rfl rfl hl.1 rfl (lv_room (Nat.le_of_ble_eq_true rfl)) dX11_create_16 ⟨Nat.le_of_ble_eq_true rfl, Nat.le_of_ble_eq_true rfl⟩) hS (fun q _ h => hFc q h) hFc (fun r_12 u t H1 locs ht hvm hw hB hz1 hk1 hS => ?_)
    obtain ⟨hP1, hK1, hD1⟩ := hB
    rw [ht] at hP1
    try dsimp only at hw
    obtain ⟨hP, hD⟩ := va_join (wr := [(rd, .inr (4, [.ref lenses_, .int 0, .int 0, .int 0, .int (-1), .int (-1), .ref tp, .ref names_, .ref quoted_, .ref links_, .ref walker2_, .int 0, .int 0, .int 0]))]) (w1 := [(h0, .inr (11, [.ref sl, .ref walker_, .ref rd, .ref machine_, .ref trial_, .ref dk])), (sl, .inl (cT, 8, .inr (.inr (.inr (.inr fT)))))]) hP hD [1, 2] [0] rfl rfl (by decide) (by decide) hk1 hFc hP1 hD1
    clear hk1 hz1 hPc hDc hFc hP1 hD1 hK1 hKc
    generalize H1 = H at hP hS ⊢
    have hP : va_P (dC, dI) cls [(rd, .inr (4, [.ref lenses_, .int 0, .int 0, .int 0, .int (-1), .int (-1), .ref tp, .ref names_, .ref quoted_, .ref links_, .ref walker2_, .int 0, .int 0, .int 0])), (h0, .inr (11, [.ref sl, .ref walker_, .ref rd, .ref machine_, .ref trial_, .ref dk])), (sl, .inl (cT, 8, .inr (.inr (.inr (.inr fT)))))] H := hP
    have hD : va_D A [(rd, .inr (4, [.ref lenses_, .int 0, .int 0, .int 0, .int (-1), .int (-1), .ref tp, .ref names_, .ref quoted_, .ref links_, .ref walker2_, .int 0, .int 0, .int 0])), (h0, .inr (11, [.ref sl, .ref walker_, .ref rd, .ref machine_, .ref trial_, .ref dk])), (sl, .inl (cT, 8, .inr (.inr (.inr (.inr fT)))))] := hD
    rcases hw with ⟨f_13, rfl⟩ | ⟨f_13, rfl⟩
    · skip
      obtain ⟨t_14, et_14⟩ := hf v3 f_13
      refine W.eq (g2 := F0 m 19 ls [.ref t_14]) (by rw [et_14]; rfl) ?_
      refine lv_astore (lv' := [(6, .ref t_14), (5, .null), (4, .null), (0, .ref h0), (1, .int v1), (2, .int v2), (3, .int v3)]) hx hb dX11_create_19 hl (by decide) rfl (fun ls hl => ?_)
      refine lv_aloadN hx hb dX11_create_21 (lv_at hl 2 rfl) ?_
      refine lv_ifnullN (tgt := 36) hx hb dX11_create_23 (by decide) ?_
      refine lv_iconst (v := (-1)) hx hb dX11_create_36 (by decide) ?_
      have hK9 := hK.sub (tys' := [(cT, .object RX6)]) [0] rfl
      have hP9 := hP.sub (ws' := []) [] rfl
      have hD9 := hD.sub (ws' := []) [] (by decide) rfl
      exact W.iret (v := (-1)) hx hb hr (fun t ht hW => ⟨⟨(-1), (), rfl, rfl, by rw [ht]; exact hP9, va_K.moved hW.alike hK9, hD9⟩, hS.F ht⟩) hS.2.2 dX11_create_37
    · skip
      refine W.eq (g2 := F0 m 19 ls [.null]) rfl ?_
      refine lv_astoreN (lv' := [(6, .null), (5, .null), (4, .null), (0, .ref h0), (1, .int v1), (2, .int v2), (3, .int v3)]) hx hb dX11_create_19 hl (by decide) rfl (fun ls hl => ?_)
      refine lv_aloadN hx hb dX11_create_21 (lv_at hl 2 rfl) ?_
      refine lv_ifnullN (tgt := 36) hx hb dX11_create_23 (by decide) ?_
      refine lv_iconst (v := (-1)) hx hb dX11_create_36 (by decide) ?_
      have hK9 := hK.sub (tys' := [(cT, .object RX6)]) [0] rfl
      have hP9 := hP.sub (ws' := []) [] rfl
      have hD9 := hD.sub (ws' := []) [] (by decide) rfl
      exact W.iret (v := (-1)) hx hb hr (fun t ht hW => ⟨⟨(-1), (), rfl, rfl, by rw [ht]; exact hP9, va_K.moved hW.alike hK9, hD9⟩, hS.F ht⟩) hS.2.2 dX11_create_37
def wk_nth : List Cond := .code yX11_nth cX11_nth 7 (some .int) :: ([.methodLink RX11 95 yX11_setAt, .instanceMethod yX11_setAt, .selects RX11 yX11_setAt yX11_setAt, .initialized RX11, .code yX11_setAt cX11_setAt 4 (some (.object "PutBack$TextSet")), .methodLink RX11 105 yX11_lensAt, .instanceMethod yX11_lensAt, .selects RX11 yX11_lensAt yX11_lensAt, .code yX11_lensAt cX11_lensAt 2 (some (.object "PutBack$Lens")), .fieldLink RX11 27 "PutBack" "reader" "LPutBack$Reader;", .fieldLink RX11 259 "PutBack$Reader" "told" "I", .methodLink RX11 74 yX11_slotAt, .instanceMethod yX11_slotAt, .selects RX11 yX11_slotAt yX11_slotAt, .code yX11_slotAt cX11_slotAt 2 (some (.object "PutBack$Text")), .fieldLink RX11 11 "PutBack" "slots" "[LPutBack$Text;"] ++ wsX40 ++ wsX110)
theorem ik_nth_RX4 : ∀ w ∈ u_ws RX4 TX4 14, w ∈ wk_nth := fun w h => List.mem_cons_of_mem _ (List.mem_append_left _ (List.mem_append_right _ h))
theorem ik_nth_RX11 : ∀ w ∈ u_ws RX11 TX11 6, w ∈ wk_nth := fun w h => List.mem_cons_of_mem _ (List.mem_append_right _ h)
theorem gk_nth_95g : GoodIn wk_nth wk_setAt := goodIn_r _ [5, 6, 7, 8, 4, 9, 10, 11, 17, 18, 19, 20, 21, 22, 23, 24, 25, 26, 27, 28, 29, 30, 31, 32, 33, 34, 35, 36] (by decide +kernel) (by decide +kernel)
theorem gk_nth_95 : GoodIn wk_nth (wsV RX11 95 RX11 yX11_setAt wk_setAt) := goodIn_app (goodIn_of _ (by decide +kernel)) gk_nth_95g
theorem gk_nth_74g : GoodIn wk_nth wk_slotAt := goodIn_r _ [15, 16, 31, 32, 33, 34, 35, 36] (by decide +kernel) (by decide +kernel)
theorem gk_nth_74 : GoodIn wk_nth (wsV RX11 74 RX11 yX11_slotAt wk_slotAt) := goodIn_app (goodIn_of _ (by decide +kernel)) gk_nth_74g
set_option maxHeartbeats 4000000 in
set_option maxRecDepth 100000 in
theorem k_nth (l : Launch) (dC : Nat → ClassId) (dI : Nat → Nat → Nat) (sz : Nat) (h0 : Nat) (v1 : Int32) (v2 : Int32) (v3 : Int32) (v4 : Int32) (sl : Nat) (walker_ : Nat) (rd : Nat) (machine_ : Nat) (trial_ : Nat) (dk : Nat) (cT : ClassId) (fT : Nat → Option Nat) (lenses_ : Nat) (tp : Nat) (names_ : Nat) (quoted_ : Nat) (links_ : Nat) (walker2_ : Nat) (hf : ∀ i : Int32, inS i → ∃ t, fT i.toNatClampNeg = some t) : Met l yX11_nth wk_nth ({ frames := 2, cells := 0, slots := 0, locals := 44 } : Room) (va_Pc [.ref h0, .int v1, .int v2, .int v3, .int v4] (fun U => U.heap.size = sz ∧ va_P (dC, dI) cls [(h0, .inr (11, [.ref sl, .ref walker_, .ref rd, .ref machine_, .ref trial_, .ref dk])), (sl, .inl (cT, 8, .inr (.inr (.inr (.inr fT))))), (rd, .inr (4, [.ref lenses_, .int 0, .int 0, .int 0, .int (-1), .int (-1), .ref tp, .ref names_, .ref quoted_, .ref links_, .ref walker2_, .int 0, .int 0, .int 0]))] U.heap ∧ va_K (dC, dI) cls [(cT, .object RX6)] U ∧ va_D (fun _ => True) [(h0, .inr (11, [.ref sl, .ref walker_, .ref rd, .ref machine_, .ref trial_, .ref dk])), (sl, .inl (cT, 8, .inr (.inr (.inr (.inr fT))))), (rd, .inr (4, [.ref lenses_, .int 0, .int 0, .int 0, .int (-1), .int (-1), .ref tp, .ref names_, .ref quoted_, .ref links_, .ref walker2_, .int 0, .int 0, .int 0]))])) (va_Qi (fun (r : Int32) (_ : Unit) => r = -1) (fun (_ : Unit) t => va_P (dC, dI) cls [] t.heap ∧ va_K (dC, dI) cls [(cT, .object RX6)] t ∧ va_D (va_A [(h0, .inr (11, [.ref sl, .ref walker_, .ref rd, .ref machine_, .ref trial_, .ref dk])), (sl, .inl (cT, 8, .inr (.inr (.inr (.inr fT))))), (rd, .inr (4, [.ref lenses_, .int 0, .int 0, .int 0, .int (-1), .int (-1), .ref tp, .ref names_, .ref quoted_, .ref links_, .ref walker2_, .int 0, .int 0, .int 0]))] sz) []) (va_A [(h0, .inr (11, [.ref sl, .ref walker_, .ref rd, .ref machine_, .ref trial_, .ref dk])), (sl, .inl (cT, 8, .inr (.inr (.inr (.inr fT))))), (rd, .inr (4, [.ref lenses_, .int 0, .int 0, .int 0, .int (-1), .int (-1), .ref tp, .ref names_, .ref quoted_, .ref links_, .ref walker2_, .int 0, .int 0, .int 0]))] sz)) 0 0 (va_A [(h0, .inr (11, [.ref sl, .ref walker_, .ref rd, .ref machine_, .ref trial_, .ref dk])), (sl, .inl (cT, 8, .inr (.inr (.inr (.inr fT))))), (rd, .inr (4, [.ref lenses_, .int 0, .int 0, .int 0, .int (-1), .int (-1), .ref tp, .ref names_, .ref quoted_, .ref links_, .ref walker2_, .int 0, .int 0, .int 0]))] sz) := by
  refine Met.ofW (cc := cX11_nth) (maxL := 7) (ret := (some .int)) (by decide) rfl ?_
  intro p e s m args below meth c s₁ B hml hv
  obtain ⟨rfl, hsz, hP, hK, hD0⟩ := hv
  have hx := B.exec
  have hb := B.bytes
  have hr := B.returns
  have hts := atoms_spec (ws := wk_nth) B.pre
  have hown : s.vm.findClass RX11 = some m.cls := findClass_of_methodNamed B.named
  have hlocks := B.notSynchronized
  subst hsz
  have hD := hD0.self (sz := s.heap.size)
  generalize hAe : va_A [(h0, .inr (11, [.ref sl, .ref walker_, .ref rd, .ref machine_, .ref trial_, .ref dk])), (sl, .inl (cT, 8, .inr (.inr (.inr (.inr fT))))), (rd, .inr (4, [.ref lenses_, .int 0, .int 0, .int 0, .int (-1), .int (-1), .ref tp, .ref names_, .ref quoted_, .ref links_, .ref walker2_, .int 0, .int 0, .int 0]))] s.heap.size = A at hD ⊢
  have hA : ∀ q : Nat, s.heap.size ≤ q → A q := fun q h => by rw [← hAe]; exact Or.inr h
  have hP : va_P (dC, dI) cls [(h0, .inr (11, [.ref sl, .ref walker_, .ref rd, .ref machine_, .ref trial_, .ref dk])), (sl, .inl (cT, 8, .inr (.inr (.inr (.inr fT))))), (rd, .inr (4, [.ref lenses_, .int 0, .int 0, .int 0, .int (-1), .int (-1), .ref tp, .ref names_, .ref quoted_, .ref links_, .ref walker2_, .int 0, .int 0, .int 0]))] s.heap := hP
  have hl := lv_entry ([.ref h0, .int v1, .int v2, .int v3, .int v4]) (n := 7) (Nat.le_of_ble_eq_true rfl)
  rw [lg_entry_eq]
  generalize (lg_sl ([.ref h0, .int v1, .int v2, .int v3, .int v4]) ++ List.replicate (7 - (lg_sl ([.ref h0, .int v1, .int v2, .int v3, .int v4])).length) Slot.unset).toArray = ls at hl ⊢
  have hl : lv_has ls 7 [(0, .ref h0), (1, .int v1), (2, .int v2), (3, .int v3), (4, .int v4)] := hl
  obtain ⟨H, hH⟩ : ∃ H : Heap, s.heap = H := ⟨_, rfl⟩
  rw [hH] at hP ⊢
  have hS : va_S A s.heap H [] := by rw [← hH]; exact va_S.rf
  refine lv_aload_n hx hb dX11_nth_0 rfl (lv_at hl 0 rfl) ?_
  refine lv_iload_n hx hb dX11_nth_1 rfl (lv_at hl 1 rfl) ?_
  refine lv_iload_n hx hb dX11_nth_2 rfl (lv_at hl 2 rfl) ?_
  have hPc := hP.sub (ws' := [(h0, .inr (11, [.ref sl, .ref walker_, .ref rd, .ref machine_, .ref trial_, .ref dk])), (rd, .inr (4, [.ref lenses_, .int 0, .int 0, .int 0, .int (-1), .int (-1), .ref tp, .ref names_, .ref quoted_, .ref links_, .ref walker2_, .int 0, .int 0, .int 0]))]) [0, 2] rfl
  have hDc := hD.sub (ws' := [(h0, .inr (11, [.ref sl, .ref walker_, .ref rd, .ref machine_, .ref trial_, .ref dk])), (rd, .inr (4, [.ref lenses_, .int 0, .int 0, .int 0, .int (-1), .int (-1), .ref tp, .ref names_, .ref quoted_, .ref links_, .ref walker2_, .int 0, .int 0, .int 0]))]) [0, 2] (by decide) rfl
  have hKc := hK.sub (tys' := []) [] rfl
  have hFc := va_free (wc := [(h0, .inr (11, [.ref sl, .ref walker_, .ref rd, .ref machine_, .ref trial_, .ref dk])), (rd, .inr (4, [.ref lenses_, .int 0, .int 0, .int 0, .int (-1), .int (-1), .ref tp, .ref names_, .ref quoted_, .ref links_, .ref walker2_, .int 0, .int 0, .int 0]))]) hD hS hA [0, 2] rfl
  refine va_callq (va_runV (As := [.int v1, .int v2]) (rest := []) ⟨hx, hb, hml, hown, hts⟩ (k_setAt l dC dI H.size h0 v1 v2 sl walker_ rd machine_ trial_ dk lenses_ tp names_ quoted_ links_ walker2_) (cwV 2 hts gk_nth_95 rfl rfl rfl (by decide +kernel) ⟨Nat.le_of_ble_eq_true rfl, Nat.le_of_ble_eq_true rfl⟩) ⟨fun a U g mk q => by obtain ⟨q0, q1, qP, qK, qD⟩ := q; exact ⟨q0, q1, qP, va_K.moved (u := U) (U := U.calling g mk a) (Vm.Alike.refl U.vm) qK, qD⟩, va_recv hK hP (ci := 11) (q0 := 0) rfl rfl, fun U hU hW => ⟨rfl, by rw [hU], by rw [hU]; exact hPc, va_K.moved hW.alike hKc, hDc.weaken (fun _ _ _ _ => trivial)⟩⟩ rfl rfl hl.1 rfl (lv_room (Nat.le_of_ble_eq_true rfl)) dX11_nth_3 ⟨Nat.le_of_ble_eq_true rfl, Nat.le_of_ble_eq_true rfl⟩) hS (fun q _ h => hFc q h) hFc (fun r_2 u t H1 locs ht hvm hw hB hz1 hk1 hS => ?_)
  obtain ⟨hP1, hK1, hD1⟩ := hB
  rw [ht] at hP1
  try dsimp only at hw
  obtain ⟨hP, hD⟩ := va_join (wr := [(sl, .inl (cT, 8, .inr (.inr (.inr (.inr fT)))))]) (w1 := [(h0, .inr (11, [.ref sl, .ref walker_, .ref rd, .ref machine_, .ref trial_, .ref dk])), (rd, .inr (4, [.ref lenses_, .int 0, .int 0, .int 0, .int (-1), .int (-1), .ref tp, .ref names_, .ref quoted_, .ref links_, .ref walker2_, .int 0, .int 0, .int 0]))]) hP hD [0, 2] [1] rfl rfl (by decide) (by decide) hk1 hFc hP1 hD1
  clear hk1 hz1 hPc hDc hFc hP1 hD1 hK1 hKc
  generalize H1 = H at hP hS ⊢
  have hP : va_P (dC, dI) cls [(sl, .inl (cT, 8, .inr (.inr (.inr (.inr fT))))), (h0, .inr (11, [.ref sl, .ref walker_, .ref rd, .ref machine_, .ref trial_, .ref dk])), (rd, .inr (4, [.ref lenses_, .int 0, .int 0, .int 0, .int (-1), .int (-1), .ref tp, .ref names_, .ref quoted_, .ref links_, .ref walker2_, .int 0, .int 0, .int 0]))] H := hP
  have hD : va_D A [(sl, .inl (cT, 8, .inr (.inr (.inr (.inr fT))))), (h0, .inr (11, [.ref sl, .ref walker_, .ref rd, .ref machine_, .ref trial_, .ref dk])), (rd, .inr (4, [.ref lenses_, .int 0, .int 0, .int 0, .int (-1), .int (-1), .ref tp, .ref names_, .ref quoted_, .ref links_, .ref walker2_, .int 0, .int 0, .int 0]))] := hD
  obtain rfl := hw
  refine W.eq (g2 := F0 m 6 ls [.null]) rfl ?_
  refine lv_astoreN (lv' := [(5, .null), (0, .ref h0), (1, .int v1), (2, .int v2), (3, .int v3), (4, .int v4)]) hx hb dX11_nth_6 hl (by decide) rfl (fun ls hl => ?_)
  refine lv_aload_n hx hb dX11_nth_8 rfl (lv_at hl 1 rfl) ?_
  refine lv_iload hx hb dX11_nth_9 (lv_at hl 5 rfl) ?_
  have hPc := hP.sub (ws' := [(h0, .inr (11, [.ref sl, .ref walker_, .ref rd, .ref machine_, .ref trial_, .ref dk])), (sl, .inl (cT, 8, .inr (.inr (.inr (.inr fT)))))]) [1, 0] rfl
  have hDc := hD.sub (ws' := [(h0, .inr (11, [.ref sl, .ref walker_, .ref rd, .ref machine_, .ref trial_, .ref dk])), (sl, .inl (cT, 8, .inr (.inr (.inr (.inr fT)))))]) [1, 0] (by decide) rfl
  have hKc := hK.sub (tys' := [(cT, .object RX6)]) [0] rfl
  have hFc := va_free (wc := [(h0, .inr (11, [.ref sl, .ref walker_, .ref rd, .ref machine_, .ref trial_, .ref dk])), (sl, .inl (cT, 8, .inr (.inr (.inr (.inr fT)))))]) hD hS hA [1, 0] rfl
  refine va_callq (va_runV (As := [.int v4]) (rest := []) ⟨hx, hb, hml, hown, hts⟩ (k_slotAt l dC dI H.size h0 v4 sl walker_ rd machine_ trial_ dk cT fT hf) (cwV 1 hts gk_nth_74 rfl rfl rfl (by decide +kernel) ⟨Nat.le_of_ble_eq_true rfl, Nat.le_of_ble_eq_true rfl⟩) ⟨fun a U g mk q => by obtain ⟨q0, q1, qP, qK, qD⟩ := q; exact ⟨q0, q1, qP, va_K.moved (u := U) (U := U.calling g mk a) (Vm.Alike.refl U.vm) qK, qD⟩, va_recv hK hP (ci := 11) (q0 := 1) rfl rfl, fun U hU hW => ⟨rfl, by rw [hU], by rw [hU]; exact hPc, va_K.moved hW.alike hKc, hDc.weaken (fun _ _ _ _ => trivial)⟩⟩ rfl rfl hl.1 rfl (lv_room (Nat.le_of_ble_eq_true rfl)) dX11_nth_11 ⟨Nat.le_of_ble_eq_true rfl, Nat.le_of_ble_eq_true rfl⟩) hS (fun q _ h => hFc q h) hFc (fun r_4 u t H1 locs ht hvm hw hB hz1 hk1 hS => ?_)
  obtain ⟨hP1, hK1, hD1⟩ := hB
  rw [ht] at hP1
  try dsimp only at hw
  obtain ⟨hP, hD⟩ := va_join (wr := [(rd, .inr (4, [.ref lenses_, .int 0, .int 0, .int 0, .int (-1), .int (-1), .ref tp, .ref names_, .ref quoted_, .ref links_, .ref walker2_, .int 0, .int 0, .int 0]))]) (w1 := [(h0, .inr (11, [.ref sl, .ref walker_, .ref rd, .ref machine_, .ref trial_, .ref dk])), (sl, .inl (cT, 8, .inr (.inr (.inr (.inr fT)))))]) hP hD [1, 0] [2] rfl rfl (by decide) (by decide) hk1 hFc hP1 hD1
  clear hk1 hz1 hPc hDc hFc hP1 hD1 hK1 hKc
  generalize H1 = H at hP hS ⊢
  have hP : va_P (dC, dI) cls [(rd, .inr (4, [.ref lenses_, .int 0, .int 0, .int 0, .int (-1), .int (-1), .ref tp, .ref names_, .ref quoted_, .ref links_, .ref walker2_, .int 0, .int 0, .int 0])), (h0, .inr (11, [.ref sl, .ref walker_, .ref rd, .ref machine_, .ref trial_, .ref dk])), (sl, .inl (cT, 8, .inr (.inr (.inr (.inr fT)))))] H := hP
  have hD : va_D A [(rd, .inr (4, [.ref lenses_, .int 0, .int 0, .int 0, .int (-1), .int (-1), .ref tp, .ref names_, .ref quoted_, .ref links_, .ref walker2_, .int 0, .int 0, .int 0])), (h0, .inr (11, [.ref sl, .ref walker_, .ref rd, .ref machine_, .ref trial_, .ref dk])), (sl, .inl (cT, 8, .inr (.inr (.inr (.inr fT)))))] := hD
  rcases hw with ⟨f_5, rfl⟩ | ⟨f_5, rfl⟩
  · skip
    obtain ⟨t_6, et_6⟩ := hf v4 f_5
    refine W.eq (g2 := F0 m 14 ls [.ref t_6]) (by rw [et_6]; rfl) ?_
    refine lv_astore (lv' := [(6, .ref t_6), (5, .null), (0, .ref h0), (1, .int v1), (2, .int v2), (3, .int v3), (4, .int v4)]) hx hb dX11_nth_14 hl (by decide) rfl (fun ls hl => ?_)
    refine lv_aloadN hx hb dX11_nth_16 (lv_at hl 1 rfl) ?_
    refine lv_ifnullN (tgt := 37) hx hb dX11_nth_18 (by decide) ?_
    refine lv_iconst (v := (-1)) hx hb dX11_nth_37 (by decide) ?_
    have hK9 := hK.sub (tys' := [(cT, .object RX6)]) [0] rfl
    have hP9 := hP.sub (ws' := []) [] rfl
    have hD9 := hD.sub (ws' := []) [] (by decide) rfl
    exact W.iret (v := (-1)) hx hb hr (fun t ht hW => ⟨⟨(-1), (), rfl, rfl, by rw [ht]; exact hP9, va_K.moved hW.alike hK9, hD9⟩, hS.F ht⟩) hS.2.2 dX11_nth_38
  · skip
    refine W.eq (g2 := F0 m 14 ls [.null]) rfl ?_
    refine lv_astoreN (lv' := [(6, .null), (5, .null), (0, .ref h0), (1, .int v1), (2, .int v2), (3, .int v3), (4, .int v4)]) hx hb dX11_nth_14 hl (by decide) rfl (fun ls hl => ?_)
    refine lv_aloadN hx hb dX11_nth_16 (lv_at hl 1 rfl) ?_
    refine lv_ifnullN (tgt := 37) hx hb dX11_nth_18 (by decide) ?_
    refine lv_iconst (v := (-1)) hx hb dX11_nth_37 (by decide) ?_
    have hK9 := hK.sub (tys' := [(cT, .object RX6)]) [0] rfl
    have hP9 := hP.sub (ws' := []) [] rfl
    have hD9 := hD.sub (ws' := []) [] (by decide) rfl
    exact W.iret (v := (-1)) hx hb hr (fun t ht hW => ⟨⟨(-1), (), rfl, rfl, by rw [ht]; exact hP9, va_K.moved hW.alike hK9, hD9⟩, hS.F ht⟩) hS.2.2 dX11_nth_38
def wk_compare : List Cond := .code yX11_compare cX11_compare 7 (some .int) :: ([.methodLink RX11 95 yX11_setAt, .instanceMethod yX11_setAt, .selects RX11 yX11_setAt yX11_setAt, .initialized RX11, .code yX11_setAt cX11_setAt 4 (some (.object "PutBack$TextSet")), .methodLink RX11 105 yX11_lensAt, .instanceMethod yX11_lensAt, .selects RX11 yX11_lensAt yX11_lensAt, .code yX11_lensAt cX11_lensAt 2 (some (.object "PutBack$Lens")), .fieldLink RX11 27 "PutBack" "reader" "LPutBack$Reader;", .fieldLink RX11 259 "PutBack$Reader" "told" "I"] ++ wsX40 ++ wsX110)
theorem ik_compare_RX4 : ∀ w ∈ u_ws RX4 TX4 14, w ∈ wk_compare := fun w h => List.mem_cons_of_mem _ (List.mem_append_left _ (List.mem_append_right _ h))
theorem ik_compare_RX11 : ∀ w ∈ u_ws RX11 TX11 6, w ∈ wk_compare := fun w h => List.mem_cons_of_mem _ (List.mem_append_right _ h)
theorem gk_compare_95g : GoodIn wk_compare wk_setAt := goodIn_r _ [5, 6, 7, 8, 4, 9, 10, 11, 12, 13, 14, 15, 16, 17, 18, 19, 20, 21, 22, 23, 24, 25, 26, 27, 28, 29, 30, 31] (by decide +kernel) (by decide +kernel)
theorem gk_compare_95 : GoodIn wk_compare (wsV RX11 95 RX11 yX11_setAt wk_setAt) := goodIn_app (goodIn_of _ (by decide +kernel)) gk_compare_95g
set_option maxHeartbeats 4000000 in
set_option maxRecDepth 100000 in
theorem k_compare (l : Launch) (dC : Nat → ClassId) (dI : Nat → Nat → Nat) (sz : Nat) (h0 : Nat) (v1 : Int32) (v2 : Int32) (v3 : Int32) (v4 : Int32) (sl : Nat) (walker_ : Nat) (rd : Nat) (machine_ : Nat) (trial_ : Nat) (dk : Nat) (lenses_ : Nat) (tp : Nat) (names_ : Nat) (quoted_ : Nat) (links_ : Nat) (walker2_ : Nat) : Met l yX11_compare wk_compare ({ frames := 2, cells := 0, slots := 0, locals := 44 } : Room) (va_Pc [.ref h0, .int v1, .int v2, .int v3, .int v4] (fun U => U.heap.size = sz ∧ va_P (dC, dI) cls [(h0, .inr (11, [.ref sl, .ref walker_, .ref rd, .ref machine_, .ref trial_, .ref dk])), (rd, .inr (4, [.ref lenses_, .int 0, .int 0, .int 0, .int (-1), .int (-1), .ref tp, .ref names_, .ref quoted_, .ref links_, .ref walker2_, .int 0, .int 0, .int 0]))] U.heap ∧ va_K (dC, dI) cls [] U ∧ va_D (fun _ => True) [(h0, .inr (11, [.ref sl, .ref walker_, .ref rd, .ref machine_, .ref trial_, .ref dk])), (rd, .inr (4, [.ref lenses_, .int 0, .int 0, .int 0, .int (-1), .int (-1), .ref tp, .ref names_, .ref quoted_, .ref links_, .ref walker2_, .int 0, .int 0, .int 0]))])) (va_Qi (fun (r : Int32) (_ : Unit) => r = -1) (fun (_ : Unit) t => va_P (dC, dI) cls [] t.heap ∧ va_K (dC, dI) cls [] t ∧ va_D (va_A [(h0, .inr (11, [.ref sl, .ref walker_, .ref rd, .ref machine_, .ref trial_, .ref dk])), (rd, .inr (4, [.ref lenses_, .int 0, .int 0, .int 0, .int (-1), .int (-1), .ref tp, .ref names_, .ref quoted_, .ref links_, .ref walker2_, .int 0, .int 0, .int 0]))] sz) []) (va_A [(h0, .inr (11, [.ref sl, .ref walker_, .ref rd, .ref machine_, .ref trial_, .ref dk])), (rd, .inr (4, [.ref lenses_, .int 0, .int 0, .int 0, .int (-1), .int (-1), .ref tp, .ref names_, .ref quoted_, .ref links_, .ref walker2_, .int 0, .int 0, .int 0]))] sz)) 0 0 (va_A [(h0, .inr (11, [.ref sl, .ref walker_, .ref rd, .ref machine_, .ref trial_, .ref dk])), (rd, .inr (4, [.ref lenses_, .int 0, .int 0, .int 0, .int (-1), .int (-1), .ref tp, .ref names_, .ref quoted_, .ref links_, .ref walker2_, .int 0, .int 0, .int 0]))] sz) := by
  refine Met.ofW (cc := cX11_compare) (maxL := 7) (ret := (some .int)) (by decide) rfl ?_
  intro p e s m args below meth c s₁ B hml hv
  obtain ⟨rfl, hsz, hP, hK, hD0⟩ := hv
  have hx := B.exec
  have hb := B.bytes
  have hr := B.returns
  have hts := atoms_spec (ws := wk_compare) B.pre
  have hown : s.vm.findClass RX11 = some m.cls := findClass_of_methodNamed B.named
  have hlocks := B.notSynchronized
  subst hsz
  have hD := hD0.self (sz := s.heap.size)
  generalize hAe : va_A [(h0, .inr (11, [.ref sl, .ref walker_, .ref rd, .ref machine_, .ref trial_, .ref dk])), (rd, .inr (4, [.ref lenses_, .int 0, .int 0, .int 0, .int (-1), .int (-1), .ref tp, .ref names_, .ref quoted_, .ref links_, .ref walker2_, .int 0, .int 0, .int 0]))] s.heap.size = A at hD ⊢
  have hA : ∀ q : Nat, s.heap.size ≤ q → A q := fun q h => by rw [← hAe]; exact Or.inr h
  have hP : va_P (dC, dI) cls [(h0, .inr (11, [.ref sl, .ref walker_, .ref rd, .ref machine_, .ref trial_, .ref dk])), (rd, .inr (4, [.ref lenses_, .int 0, .int 0, .int 0, .int (-1), .int (-1), .ref tp, .ref names_, .ref quoted_, .ref links_, .ref walker2_, .int 0, .int 0, .int 0]))] s.heap := hP
  have hl := lv_entry ([.ref h0, .int v1, .int v2, .int v3, .int v4]) (n := 7) (Nat.le_of_ble_eq_true rfl)
  rw [lg_entry_eq]
  generalize (lg_sl ([.ref h0, .int v1, .int v2, .int v3, .int v4]) ++ List.replicate (7 - (lg_sl ([.ref h0, .int v1, .int v2, .int v3, .int v4])).length) Slot.unset).toArray = ls at hl ⊢
  have hl : lv_has ls 7 [(0, .ref h0), (1, .int v1), (2, .int v2), (3, .int v3), (4, .int v4)] := hl
  obtain ⟨H, hH⟩ : ∃ H : Heap, s.heap = H := ⟨_, rfl⟩
  rw [hH] at hP ⊢
  have hS : va_S A s.heap H [] := by rw [← hH]; exact va_S.rf
  refine lv_aload_n hx hb dX11_compare_0 rfl (lv_at hl 0 rfl) ?_
  refine lv_iload_n hx hb dX11_compare_1 rfl (lv_at hl 1 rfl) ?_
  refine lv_iload_n hx hb dX11_compare_2 rfl (lv_at hl 2 rfl) ?_
  have hPc := hP.sub (ws' := [(h0, .inr (11, [.ref sl, .ref walker_, .ref rd, .ref machine_, .ref trial_, .ref dk])), (rd, .inr (4, [.ref lenses_, .int 0, .int 0, .int 0, .int (-1), .int (-1), .ref tp, .ref names_, .ref quoted_, .ref links_, .ref walker2_, .int 0, .int 0, .int 0]))]) [0, 1] rfl
  have hDc := hD.sub (ws' := [(h0, .inr (11, [.ref sl, .ref walker_, .ref rd, .ref machine_, .ref trial_, .ref dk])), (rd, .inr (4, [.ref lenses_, .int 0, .int 0, .int 0, .int (-1), .int (-1), .ref tp, .ref names_, .ref quoted_, .ref links_, .ref walker2_, .int 0, .int 0, .int 0]))]) [0, 1] (by decide) rfl
  have hKc := hK.sub (tys' := []) [] rfl
  have hFc := va_free (wc := [(h0, .inr (11, [.ref sl, .ref walker_, .ref rd, .ref machine_, .ref trial_, .ref dk])), (rd, .inr (4, [.ref lenses_, .int 0, .int 0, .int 0, .int (-1), .int (-1), .ref tp, .ref names_, .ref quoted_, .ref links_, .ref walker2_, .int 0, .int 0, .int 0]))]) hD hS hA [0, 1] rfl
  refine va_callq (va_runV (As := [.int v1, .int v2]) (rest := []) ⟨hx, hb, hml, hown, hts⟩ (k_setAt l dC dI H.size h0 v1 v2 sl walker_ rd machine_ trial_ dk lenses_ tp names_ quoted_ links_ walker2_) (cwV 2 hts gk_compare_95 rfl rfl rfl (by decide +kernel) ⟨Nat.le_of_ble_eq_true rfl, Nat.le_of_ble_eq_true rfl⟩) ⟨fun a U g mk q => by obtain ⟨q0, q1, qP, qK, qD⟩ := q; exact ⟨q0, q1, qP, va_K.moved (u := U) (U := U.calling g mk a) (Vm.Alike.refl U.vm) qK, qD⟩, va_recv hK hP (ci := 11) (q0 := 0) rfl rfl, fun U hU hW => ⟨rfl, by rw [hU], by rw [hU]; exact hPc, va_K.moved hW.alike hKc, hDc.weaken (fun _ _ _ _ => trivial)⟩⟩ rfl rfl hl.1 rfl (lv_room (Nat.le_of_ble_eq_true rfl)) dX11_compare_3 ⟨Nat.le_of_ble_eq_true rfl, Nat.le_of_ble_eq_true rfl⟩) hS (fun q _ h => hFc q h) hFc (fun r_2 u t H1 locs ht hvm hw hB hz1 hk1 hS => ?_)
  obtain ⟨hP1, hK1, hD1⟩ := hB
  rw [ht] at hP1
  try dsimp only at hw
  obtain ⟨hP, hD⟩ := va_join (wr := []) (w1 := [(h0, .inr (11, [.ref sl, .ref walker_, .ref rd, .ref machine_, .ref trial_, .ref dk])), (rd, .inr (4, [.ref lenses_, .int 0, .int 0, .int 0, .int (-1), .int (-1), .ref tp, .ref names_, .ref quoted_, .ref links_, .ref walker2_, .int 0, .int 0, .int 0]))]) hP hD [0, 1] [] rfl rfl (by decide) (by decide) hk1 hFc hP1 hD1
  clear hk1 hz1 hPc hDc hFc hP1 hD1 hK1 hKc
  generalize H1 = H at hP hS ⊢
  have hP : va_P (dC, dI) cls [(h0, .inr (11, [.ref sl, .ref walker_, .ref rd, .ref machine_, .ref trial_, .ref dk])), (rd, .inr (4, [.ref lenses_, .int 0, .int 0, .int 0, .int (-1), .int (-1), .ref tp, .ref names_, .ref quoted_, .ref links_, .ref walker2_, .int 0, .int 0, .int 0]))] H := hP
  have hD : va_D A [(h0, .inr (11, [.ref sl, .ref walker_, .ref rd, .ref machine_, .ref trial_, .ref dk])), (rd, .inr (4, [.ref lenses_, .int 0, .int 0, .int 0, .int (-1), .int (-1), .ref tp, .ref names_, .ref quoted_, .ref links_, .ref walker2_, .int 0, .int 0, .int 0]))] := hD
  obtain rfl := hw
  refine W.eq (g2 := F0 m 6 ls [.null]) rfl ?_
  refine lv_astoreN (lv' := [(5, .null), (0, .ref h0), (1, .int v1), (2, .int v2), (3, .int v3), (4, .int v4)]) hx hb dX11_compare_6 hl (by decide) rfl (fun ls hl => ?_)
  refine lv_aload_n hx hb dX11_compare_8 rfl (lv_at hl 1 rfl) ?_
  refine lv_iload_n hx hb dX11_compare_9 rfl (lv_at hl 4 rfl) ?_
  refine lv_iload hx hb dX11_compare_10 (lv_at hl 5 rfl) ?_
  have hPc := hP.sub (ws' := [(h0, .inr (11, [.ref sl, .ref walker_, .ref rd, .ref machine_, .ref trial_, .ref dk])), (rd, .inr (4, [.ref lenses_, .int 0, .int 0, .int 0, .int (-1), .int (-1), .ref tp, .ref names_, .ref quoted_, .ref links_, .ref walker2_, .int 0, .int 0, .int 0]))]) [0, 1] rfl
  have hDc := hD.sub (ws' := [(h0, .inr (11, [.ref sl, .ref walker_, .ref rd, .ref machine_, .ref trial_, .ref dk])), (rd, .inr (4, [.ref lenses_, .int 0, .int 0, .int 0, .int (-1), .int (-1), .ref tp, .ref names_, .ref quoted_, .ref links_, .ref walker2_, .int 0, .int 0, .int 0]))]) [0, 1] (by decide) rfl
  have hKc := hK.sub (tys' := []) [] rfl
  have hFc := va_free (wc := [(h0, .inr (11, [.ref sl, .ref walker_, .ref rd, .ref machine_, .ref trial_, .ref dk])), (rd, .inr (4, [.ref lenses_, .int 0, .int 0, .int 0, .int (-1), .int (-1), .ref tp, .ref names_, .ref quoted_, .ref links_, .ref walker2_, .int 0, .int 0, .int 0]))]) hD hS hA [0, 1] rfl
  refine va_callq (va_runV (As := [.int v3, .int v4]) (rest := []) ⟨hx, hb, hml, hown, hts⟩ (k_setAt l dC dI H.size h0 v3 v4 sl walker_ rd machine_ trial_ dk lenses_ tp names_ quoted_ links_ walker2_) (cwV 2 hts gk_compare_95 rfl rfl rfl (by decide +kernel) ⟨Nat.le_of_ble_eq_true rfl, Nat.le_of_ble_eq_true rfl⟩) ⟨fun a U g mk q => by obtain ⟨q0, q1, qP, qK, qD⟩ := q; exact ⟨q0, q1, qP, va_K.moved (u := U) (U := U.calling g mk a) (Vm.Alike.refl U.vm) qK, qD⟩, va_recv hK hP (ci := 11) (q0 := 0) rfl rfl, fun U hU hW => ⟨rfl, by rw [hU], by rw [hU]; exact hPc, va_K.moved hW.alike hKc, hDc.weaken (fun _ _ _ _ => trivial)⟩⟩ rfl rfl hl.1 rfl (lv_room (Nat.le_of_ble_eq_true rfl)) dX11_compare_12 ⟨Nat.le_of_ble_eq_true rfl, Nat.le_of_ble_eq_true rfl⟩) hS (fun q _ h => hFc q h) hFc (fun r_4 u t H1 locs ht hvm hw hB hz1 hk1 hS => ?_)
  obtain ⟨hP1, hK1, hD1⟩ := hB
  rw [ht] at hP1
  try dsimp only at hw
  obtain ⟨hP, hD⟩ := va_join (wr := []) (w1 := [(h0, .inr (11, [.ref sl, .ref walker_, .ref rd, .ref machine_, .ref trial_, .ref dk])), (rd, .inr (4, [.ref lenses_, .int 0, .int 0, .int 0, .int (-1), .int (-1), .ref tp, .ref names_, .ref quoted_, .ref links_, .ref walker2_, .int 0, .int 0, .int 0]))]) hP hD [0, 1] [] rfl rfl (by decide) (by decide) hk1 hFc hP1 hD1
  clear hk1 hz1 hPc hDc hFc hP1 hD1 hK1 hKc
  generalize H1 = H at hP hS ⊢
  have hP : va_P (dC, dI) cls [(h0, .inr (11, [.ref sl, .ref walker_, .ref rd, .ref machine_, .ref trial_, .ref dk])), (rd, .inr (4, [.ref lenses_, .int 0, .int 0, .int 0, .int (-1), .int (-1), .ref tp, .ref names_, .ref quoted_, .ref links_, .ref walker2_, .int 0, .int 0, .int 0]))] H := hP
  have hD : va_D A [(h0, .inr (11, [.ref sl, .ref walker_, .ref rd, .ref machine_, .ref trial_, .ref dk])), (rd, .inr (4, [.ref lenses_, .int 0, .int 0, .int 0, .int (-1), .int (-1), .ref tp, .ref names_, .ref quoted_, .ref links_, .ref walker2_, .int 0, .int 0, .int 0]))] := hD
  obtain rfl := hw
  refine W.eq (g2 := F0 m 15 ls [.null]) rfl ?_
  refine lv_astoreN (lv' := [(6, .null), (5, .null), (0, .ref h0), (1, .int v1), (2, .int v2), (3, .int v3), (4, .int v4)]) hx hb dX11_compare_15 hl (by decide) rfl (fun ls hl => ?_)
  refine lv_aloadN hx hb dX11_compare_17 (lv_at hl 1 rfl) ?_
  refine lv_ifnullN (tgt := 27) hx hb dX11_compare_19 (by decide) ?_
  refine lv_iconst (v := (-1)) hx hb dX11_compare_27 (by decide) ?_
  refine lv_goto (tgt := 42) hx hb dX11_compare_28 (by decide) ?_
  have hK9 := hK.sub (tys' := []) [] rfl
  have hP9 := hP.sub (ws' := []) [] rfl
  have hD9 := hD.sub (ws' := []) [] (by decide) rfl
  exact W.iret (v := (-1)) hx hb hr (fun t ht hW => ⟨⟨(-1), (), rfl, rfl, by rw [ht]; exact hP9, va_K.moved hW.alike hK9, hD9⟩, hS.F ht⟩) hS.2.2 dX11_compare_42
def wk_set : List Cond := .code yX11_set cX11_set 5 (some .int) :: ([.methodLink RX11 95 yX11_setAt, .instanceMethod yX11_setAt, .selects RX11 yX11_setAt yX11_setAt, .initialized RX11, .code yX11_setAt cX11_setAt 4 (some (.object "PutBack$TextSet")), .methodLink RX11 105 yX11_lensAt, .instanceMethod yX11_lensAt, .selects RX11 yX11_lensAt yX11_lensAt, .code yX11_lensAt cX11_lensAt 2 (some (.object "PutBack$Lens")), .fieldLink RX11 27 "PutBack" "reader" "LPutBack$Reader;", .fieldLink RX11 259 "PutBack$Reader" "told" "I"] ++ wsX40 ++ wsX110)
theorem ik_set_RX4 : ∀ w ∈ u_ws RX4 TX4 14, w ∈ wk_set := fun w h => List.mem_cons_of_mem _ (List.mem_append_left _ (List.mem_append_right _ h))
theorem ik_set_RX11 : ∀ w ∈ u_ws RX11 TX11 6, w ∈ wk_set := fun w h => List.mem_cons_of_mem _ (List.mem_append_right _ h)
theorem gk_set_95g : GoodIn wk_set wk_setAt := goodIn_r _ [5, 6, 7, 8, 4, 9, 10, 11, 12, 13, 14, 15, 16, 17, 18, 19, 20, 21, 22, 23, 24, 25, 26, 27, 28, 29, 30, 31] (by decide +kernel) (by decide +kernel)
theorem gk_set_95 : GoodIn wk_set (wsV RX11 95 RX11 yX11_setAt wk_setAt) := goodIn_app (goodIn_of _ (by decide +kernel)) gk_set_95g
set_option maxHeartbeats 4000000 in
set_option maxRecDepth 100000 in
theorem k_set (l : Launch) (dC : Nat → ClassId) (dI : Nat → Nat → Nat) (sz : Nat) (h0 : Nat) (v1 : Int32) (v2 : Int32) (v3 : Int32) (sl : Nat) (walker_ : Nat) (rd : Nat) (machine_ : Nat) (trial_ : Nat) (dk : Nat) (lenses_ : Nat) (tp : Nat) (names_ : Nat) (quoted_ : Nat) (links_ : Nat) (walker2_ : Nat) : Met l yX11_set wk_set ({ frames := 2, cells := 0, slots := 0, locals := 44 } : Room) (va_Pc [.ref h0, .int v1, .int v2, .int v3] (fun U => U.heap.size = sz ∧ va_P (dC, dI) cls [(h0, .inr (11, [.ref sl, .ref walker_, .ref rd, .ref machine_, .ref trial_, .ref dk])), (rd, .inr (4, [.ref lenses_, .int 0, .int 0, .int 0, .int (-1), .int (-1), .ref tp, .ref names_, .ref quoted_, .ref links_, .ref walker2_, .int 0, .int 0, .int 0]))] U.heap ∧ va_K (dC, dI) cls [] U ∧ va_D (fun _ => True) [(h0, .inr (11, [.ref sl, .ref walker_, .ref rd, .ref machine_, .ref trial_, .ref dk])), (rd, .inr (4, [.ref lenses_, .int 0, .int 0, .int 0, .int (-1), .int (-1), .ref tp, .ref names_, .ref quoted_, .ref links_, .ref walker2_, .int 0, .int 0, .int 0]))])) (va_Qi (fun (r : Int32) (_ : Unit) => r = -1) (fun (_ : Unit) t => va_P (dC, dI) cls [] t.heap ∧ va_K (dC, dI) cls [] t ∧ va_D (va_A [(h0, .inr (11, [.ref sl, .ref walker_, .ref rd, .ref machine_, .ref trial_, .ref dk])), (rd, .inr (4, [.ref lenses_, .int 0, .int 0, .int 0, .int (-1), .int (-1), .ref tp, .ref names_, .ref quoted_, .ref links_, .ref walker2_, .int 0, .int 0, .int 0]))] sz) []) (va_A [(h0, .inr (11, [.ref sl, .ref walker_, .ref rd, .ref machine_, .ref trial_, .ref dk])), (rd, .inr (4, [.ref lenses_, .int 0, .int 0, .int 0, .int (-1), .int (-1), .ref tp, .ref names_, .ref quoted_, .ref links_, .ref walker2_, .int 0, .int 0, .int 0]))] sz)) 0 0 (va_A [(h0, .inr (11, [.ref sl, .ref walker_, .ref rd, .ref machine_, .ref trial_, .ref dk])), (rd, .inr (4, [.ref lenses_, .int 0, .int 0, .int 0, .int (-1), .int (-1), .ref tp, .ref names_, .ref quoted_, .ref links_, .ref walker2_, .int 0, .int 0, .int 0]))] sz) := by
  refine Met.ofW (cc := cX11_set) (maxL := 5) (ret := (some .int)) (by decide) rfl ?_
  intro p e s m args below meth c s₁ B hml hv
  obtain ⟨rfl, hsz, hP, hK, hD0⟩ := hv
  have hx := B.exec
  have hb := B.bytes
  have hr := B.returns
  have hts := atoms_spec (ws := wk_set) B.pre
  have hown : s.vm.findClass RX11 = some m.cls := findClass_of_methodNamed B.named
  have hlocks := B.notSynchronized
  subst hsz
  have hD := hD0.self (sz := s.heap.size)
  generalize hAe : va_A [(h0, .inr (11, [.ref sl, .ref walker_, .ref rd, .ref machine_, .ref trial_, .ref dk])), (rd, .inr (4, [.ref lenses_, .int 0, .int 0, .int 0, .int (-1), .int (-1), .ref tp, .ref names_, .ref quoted_, .ref links_, .ref walker2_, .int 0, .int 0, .int 0]))] s.heap.size = A at hD ⊢
  have hA : ∀ q : Nat, s.heap.size ≤ q → A q := fun q h => by rw [← hAe]; exact Or.inr h
  have hP : va_P (dC, dI) cls [(h0, .inr (11, [.ref sl, .ref walker_, .ref rd, .ref machine_, .ref trial_, .ref dk])), (rd, .inr (4, [.ref lenses_, .int 0, .int 0, .int 0, .int (-1), .int (-1), .ref tp, .ref names_, .ref quoted_, .ref links_, .ref walker2_, .int 0, .int 0, .int 0]))] s.heap := hP
  have hl := lv_entry ([.ref h0, .int v1, .int v2, .int v3]) (n := 5) (Nat.le_of_ble_eq_true rfl)
  rw [lg_entry_eq]
  generalize (lg_sl ([.ref h0, .int v1, .int v2, .int v3]) ++ List.replicate (5 - (lg_sl ([.ref h0, .int v1, .int v2, .int v3])).length) Slot.unset).toArray = ls at hl ⊢
  have hl : lv_has ls 5 [(0, .ref h0), (1, .int v1), (2, .int v2), (3, .int v3)] := hl
  obtain ⟨H, hH⟩ : ∃ H : Heap, s.heap = H := ⟨_, rfl⟩
  rw [hH] at hP ⊢
  have hS : va_S A s.heap H [] := by rw [← hH]; exact va_S.rf
  refine lv_aload_n hx hb dX11_set_0 rfl (lv_at hl 0 rfl) ?_
  refine lv_iload_n hx hb dX11_set_1 rfl (lv_at hl 1 rfl) ?_
  refine lv_iload_n hx hb dX11_set_2 rfl (lv_at hl 2 rfl) ?_
  have hPc := hP.sub (ws' := [(h0, .inr (11, [.ref sl, .ref walker_, .ref rd, .ref machine_, .ref trial_, .ref dk])), (rd, .inr (4, [.ref lenses_, .int 0, .int 0, .int 0, .int (-1), .int (-1), .ref tp, .ref names_, .ref quoted_, .ref links_, .ref walker2_, .int 0, .int 0, .int 0]))]) [0, 1] rfl
  have hDc := hD.sub (ws' := [(h0, .inr (11, [.ref sl, .ref walker_, .ref rd, .ref machine_, .ref trial_, .ref dk])), (rd, .inr (4, [.ref lenses_, .int 0, .int 0, .int 0, .int (-1), .int (-1), .ref tp, .ref names_, .ref quoted_, .ref links_, .ref walker2_, .int 0, .int 0, .int 0]))]) [0, 1] (by decide) rfl
  have hKc := hK.sub (tys' := []) [] rfl
  have hFc := va_free (wc := [(h0, .inr (11, [.ref sl, .ref walker_, .ref rd, .ref machine_, .ref trial_, .ref dk])), (rd, .inr (4, [.ref lenses_, .int 0, .int 0, .int 0, .int (-1), .int (-1), .ref tp, .ref names_, .ref quoted_, .ref links_, .ref walker2_, .int 0, .int 0, .int 0]))]) hD hS hA [0, 1] rfl
  refine va_callq (va_runV (As := [.int v1, .int v2]) (rest := []) ⟨hx, hb, hml, hown, hts⟩ (k_setAt l dC dI H.size h0 v1 v2 sl walker_ rd machine_ trial_ dk lenses_ tp names_ quoted_ links_ walker2_) (cwV 2 hts gk_set_95 rfl rfl rfl (by decide +kernel) ⟨Nat.le_of_ble_eq_true rfl, Nat.le_of_ble_eq_true rfl⟩) ⟨fun a U g mk q => by obtain ⟨q0, q1, qP, qK, qD⟩ := q; exact ⟨q0, q1, qP, va_K.moved (u := U) (U := U.calling g mk a) (Vm.Alike.refl U.vm) qK, qD⟩, va_recv hK hP (ci := 11) (q0 := 0) rfl rfl, fun U hU hW => ⟨rfl, by rw [hU], by rw [hU]; exact hPc, va_K.moved hW.alike hKc, hDc.weaken (fun _ _ _ _ => trivial)⟩⟩ rfl rfl hl.1 rfl (lv_room (Nat.le_of_ble_eq_true rfl)) dX11_set_3 ⟨Nat.le_of_ble_eq_true rfl, Nat.le_of_ble_eq_true rfl⟩) hS (fun q _ h => hFc q h) hFc (fun r_2 u t H1 locs ht hvm hw hB hz1 hk1 hS => ?_)
  obtain ⟨hP1, hK1, hD1⟩ := hB
  rw [ht] at hP1
  try dsimp only at hw
  obtain ⟨hP, hD⟩ := va_join (wr := []) (w1 := [(h0, .inr (11, [.ref sl, .ref walker_, .ref rd, .ref machine_, .ref trial_, .ref dk])), (rd, .inr (4, [.ref lenses_, .int 0, .int 0, .int 0, .int (-1), .int (-1), .ref tp, .ref names_, .ref quoted_, .ref links_, .ref walker2_, .int 0, .int 0, .int 0]))]) hP hD [0, 1] [] rfl rfl (by decide) (by decide) hk1 hFc hP1 hD1
  clear hk1 hz1 hPc hDc hFc hP1 hD1 hK1 hKc
  generalize H1 = H at hP hS ⊢
  have hP : va_P (dC, dI) cls [(h0, .inr (11, [.ref sl, .ref walker_, .ref rd, .ref machine_, .ref trial_, .ref dk])), (rd, .inr (4, [.ref lenses_, .int 0, .int 0, .int 0, .int (-1), .int (-1), .ref tp, .ref names_, .ref quoted_, .ref links_, .ref walker2_, .int 0, .int 0, .int 0]))] H := hP
  have hD : va_D A [(h0, .inr (11, [.ref sl, .ref walker_, .ref rd, .ref machine_, .ref trial_, .ref dk])), (rd, .inr (4, [.ref lenses_, .int 0, .int 0, .int 0, .int (-1), .int (-1), .ref tp, .ref names_, .ref quoted_, .ref links_, .ref walker2_, .int 0, .int 0, .int 0]))] := hD
  obtain rfl := hw
  refine W.eq (g2 := F0 m 6 ls [.null]) rfl ?_
  refine lv_astoreN (lv' := [(4, .null), (0, .ref h0), (1, .int v1), (2, .int v2), (3, .int v3)]) hx hb dX11_set_6 hl (by decide) rfl (fun ls hl => ?_)
  refine lv_aloadN hx hb dX11_set_8 (lv_at hl 0 rfl) ?_
  refine lv_ifnonnullN hx hb dX11_set_10 ?_
  refine lv_iconst (v := (-1)) hx hb dX11_set_13 (by decide) ?_
  have hK9 := hK.sub (tys' := []) [] rfl
  have hP9 := hP.sub (ws' := []) [] rfl
  have hD9 := hD.sub (ws' := []) [] (by decide) rfl
  exact W.iret (v := (-1)) hx hb hr (fun t ht hW => ⟨⟨(-1), (), rfl, rfl, by rw [ht]; exact hP9, va_K.moved hW.alike hK9, hD9⟩, hS.F ht⟩) hS.2.2 dX11_set_14
def wk_goesOn : List Cond := .code yX11_goesOn cX11_goesOn 11 (some .int) :: ([.methodLink RX11 95 yX11_setAt, .instanceMethod yX11_setAt, .selects RX11 yX11_setAt yX11_setAt, .initialized RX11, .code yX11_setAt cX11_setAt 4 (some (.object "PutBack$TextSet")), .methodLink RX11 105 yX11_lensAt, .instanceMethod yX11_lensAt, .selects RX11 yX11_lensAt yX11_lensAt, .code yX11_lensAt cX11_lensAt 2 (some (.object "PutBack$Lens")), .fieldLink RX11 27 "PutBack" "reader" "LPutBack$Reader;", .fieldLink RX11 259 "PutBack$Reader" "told" "I", .methodLink RX11 74 yX11_slotAt, .instanceMethod yX11_slotAt, .selects RX11 yX11_slotAt yX11_slotAt, .code yX11_slotAt cX11_slotAt 2 (some (.object "PutBack$Text")), .fieldLink RX11 11 "PutBack" "slots" "[LPutBack$Text;"] ++ wsX40 ++ wsX110)
theorem ik_goesOn_RX4 : ∀ w ∈ u_ws RX4 TX4 14, w ∈ wk_goesOn := fun w h => List.mem_cons_of_mem _ (List.mem_append_left _ (List.mem_append_right _ h))
theorem ik_goesOn_RX11 : ∀ w ∈ u_ws RX11 TX11 6, w ∈ wk_goesOn := fun w h => List.mem_cons_of_mem _ (List.mem_append_right _ h)
theorem gk_goesOn_95g : GoodIn wk_goesOn wk_setAt := goodIn_r _ [5, 6, 7, 8, 4, 9, 10, 11, 17, 18, 19, 20, 21, 22, 23, 24, 25, 26, 27, 28, 29, 30, 31, 32, 33, 34, 35, 36] (by decide +kernel) (by decide +kernel)
theorem gk_goesOn_95 : GoodIn wk_goesOn (wsV RX11 95 RX11 yX11_setAt wk_setAt) := goodIn_app (goodIn_of _ (by decide +kernel)) gk_goesOn_95g
theorem gk_goesOn_74g : GoodIn wk_goesOn wk_slotAt := goodIn_r _ [15, 16, 31, 32, 33, 34, 35, 36] (by decide +kernel) (by decide +kernel)
theorem gk_goesOn_74 : GoodIn wk_goesOn (wsV RX11 74 RX11 yX11_slotAt wk_slotAt) := goodIn_app (goodIn_of _ (by decide +kernel)) gk_goesOn_74g
set_option maxHeartbeats 4000000 in
set_option maxRecDepth 100000 in
theorem k_goesOn (l : Launch) (dC : Nat → ClassId) (dI : Nat → Nat → Nat) (sz : Nat) (h0 : Nat) (v1 : Int32) (v2 : Int32) (v3 : Int32) (v4 : Int32) (sl : Nat) (walker_ : Nat) (rd : Nat) (machine_ : Nat) (trial_ : Nat) (dk : Nat) (cT : ClassId) (fT : Nat → Option Nat) (lenses_ : Nat) (tp : Nat) (names_ : Nat) (quoted_ : Nat) (links_ : Nat) (walker2_ : Nat) (hf : ∀ i : Int32, inS i → ∃ t, fT i.toNatClampNeg = some t) : Met l yX11_goesOn wk_goesOn ({ frames := 2, cells := 0, slots := 0, locals := 44 } : Room) (va_Pc [.ref h0, .int v1, .int v2, .int v3, .int v4] (fun U => U.heap.size = sz ∧ va_P (dC, dI) cls [(h0, .inr (11, [.ref sl, .ref walker_, .ref rd, .ref machine_, .ref trial_, .ref dk])), (sl, .inl (cT, 8, .inr (.inr (.inr (.inr fT))))), (rd, .inr (4, [.ref lenses_, .int 0, .int 0, .int 0, .int (-1), .int (-1), .ref tp, .ref names_, .ref quoted_, .ref links_, .ref walker2_, .int 0, .int 0, .int 0]))] U.heap ∧ va_K (dC, dI) cls [(cT, .object RX6)] U ∧ va_D (fun _ => True) [(h0, .inr (11, [.ref sl, .ref walker_, .ref rd, .ref machine_, .ref trial_, .ref dk])), (sl, .inl (cT, 8, .inr (.inr (.inr (.inr fT))))), (rd, .inr (4, [.ref lenses_, .int 0, .int 0, .int 0, .int (-1), .int (-1), .ref tp, .ref names_, .ref quoted_, .ref links_, .ref walker2_, .int 0, .int 0, .int 0]))])) (va_Qi (fun (r : Int32) (_ : Unit) => r = -1) (fun (_ : Unit) t => va_P (dC, dI) cls [] t.heap ∧ va_K (dC, dI) cls [(cT, .object RX6)] t ∧ va_D (va_A [(h0, .inr (11, [.ref sl, .ref walker_, .ref rd, .ref machine_, .ref trial_, .ref dk])), (sl, .inl (cT, 8, .inr (.inr (.inr (.inr fT))))), (rd, .inr (4, [.ref lenses_, .int 0, .int 0, .int 0, .int (-1), .int (-1), .ref tp, .ref names_, .ref quoted_, .ref links_, .ref walker2_, .int 0, .int 0, .int 0]))] sz) []) (va_A [(h0, .inr (11, [.ref sl, .ref walker_, .ref rd, .ref machine_, .ref trial_, .ref dk])), (sl, .inl (cT, 8, .inr (.inr (.inr (.inr fT))))), (rd, .inr (4, [.ref lenses_, .int 0, .int 0, .int 0, .int (-1), .int (-1), .ref tp, .ref names_, .ref quoted_, .ref links_, .ref walker2_, .int 0, .int 0, .int 0]))] sz)) 0 0 (va_A [(h0, .inr (11, [.ref sl, .ref walker_, .ref rd, .ref machine_, .ref trial_, .ref dk])), (sl, .inl (cT, 8, .inr (.inr (.inr (.inr fT))))), (rd, .inr (4, [.ref lenses_, .int 0, .int 0, .int 0, .int (-1), .int (-1), .ref tp, .ref names_, .ref quoted_, .ref links_, .ref walker2_, .int 0, .int 0, .int 0]))] sz) := by
  refine Met.ofW (cc := cX11_goesOn) (maxL := 11) (ret := (some .int)) (by decide) rfl ?_
  intro p e s m args below meth c s₁ B hml hv
  obtain ⟨rfl, hsz, hP, hK, hD0⟩ := hv
  have hx := B.exec
  have hb := B.bytes
  have hr := B.returns
  have hts := atoms_spec (ws := wk_goesOn) B.pre
  have hown : s.vm.findClass RX11 = some m.cls := findClass_of_methodNamed B.named
  have hlocks := B.notSynchronized
  subst hsz
  have hD := hD0.self (sz := s.heap.size)
  generalize hAe : va_A [(h0, .inr (11, [.ref sl, .ref walker_, .ref rd, .ref machine_, .ref trial_, .ref dk])), (sl, .inl (cT, 8, .inr (.inr (.inr (.inr fT))))), (rd, .inr (4, [.ref lenses_, .int 0, .int 0, .int 0, .int (-1), .int (-1), .ref tp, .ref names_, .ref quoted_, .ref links_, .ref walker2_, .int 0, .int 0, .int 0]))] s.heap.size = A at hD ⊢
  have hA : ∀ q : Nat, s.heap.size ≤ q → A q := fun q h => by rw [← hAe]; exact Or.inr h
  have hP : va_P (dC, dI) cls [(h0, .inr (11, [.ref sl, .ref walker_, .ref rd, .ref machine_, .ref trial_, .ref dk])), (sl, .inl (cT, 8, .inr (.inr (.inr (.inr fT))))), (rd, .inr (4, [.ref lenses_, .int 0, .int 0, .int 0, .int (-1), .int (-1), .ref tp, .ref names_, .ref quoted_, .ref links_, .ref walker2_, .int 0, .int 0, .int 0]))] s.heap := hP
  have hl := lv_entry ([.ref h0, .int v1, .int v2, .int v3, .int v4]) (n := 11) (Nat.le_of_ble_eq_true rfl)
  rw [lg_entry_eq]
  generalize (lg_sl ([.ref h0, .int v1, .int v2, .int v3, .int v4]) ++ List.replicate (11 - (lg_sl ([.ref h0, .int v1, .int v2, .int v3, .int v4])).length) Slot.unset).toArray = ls at hl ⊢
  have hl : lv_has ls 11 [(0, .ref h0), (1, .int v1), (2, .int v2), (3, .int v3), (4, .int v4)] := hl
  obtain ⟨H, hH⟩ : ∃ H : Heap, s.heap = H := ⟨_, rfl⟩
  rw [hH] at hP ⊢
  have hS : va_S A s.heap H [] := by rw [← hH]; exact va_S.rf
  refine lv_aload_n hx hb dX11_goesOn_0 rfl (lv_at hl 0 rfl) ?_
  refine lv_iload_n hx hb dX11_goesOn_1 rfl (lv_at hl 1 rfl) ?_
  refine lv_iload_n hx hb dX11_goesOn_2 rfl (lv_at hl 2 rfl) ?_
  have hPc := hP.sub (ws' := [(h0, .inr (11, [.ref sl, .ref walker_, .ref rd, .ref machine_, .ref trial_, .ref dk])), (rd, .inr (4, [.ref lenses_, .int 0, .int 0, .int 0, .int (-1), .int (-1), .ref tp, .ref names_, .ref quoted_, .ref links_, .ref walker2_, .int 0, .int 0, .int 0]))]) [0, 2] rfl
  have hDc := hD.sub (ws' := [(h0, .inr (11, [.ref sl, .ref walker_, .ref rd, .ref machine_, .ref trial_, .ref dk])), (rd, .inr (4, [.ref lenses_, .int 0, .int 0, .int 0, .int (-1), .int (-1), .ref tp, .ref names_, .ref quoted_, .ref links_, .ref walker2_, .int 0, .int 0, .int 0]))]) [0, 2] (by decide) rfl
  have hKc := hK.sub (tys' := []) [] rfl
  have hFc := va_free (wc := [(h0, .inr (11, [.ref sl, .ref walker_, .ref rd, .ref machine_, .ref trial_, .ref dk])), (rd, .inr (4, [.ref lenses_, .int 0, .int 0, .int 0, .int (-1), .int (-1), .ref tp, .ref names_, .ref quoted_, .ref links_, .ref walker2_, .int 0, .int 0, .int 0]))]) hD hS hA [0, 2] rfl
  refine va_callq (va_runV (As := [.int v1, .int v2]) (rest := []) ⟨hx, hb, hml, hown, hts⟩ (k_setAt l dC dI H.size h0 v1 v2 sl walker_ rd machine_ trial_ dk lenses_ tp names_ quoted_ links_ walker2_) (cwV 2 hts gk_goesOn_95 rfl rfl rfl (by decide +kernel) ⟨Nat.le_of_ble_eq_true rfl, Nat.le_of_ble_eq_true rfl⟩) ⟨fun a U g mk q => by obtain ⟨q0, q1, qP, qK, qD⟩ := q; exact ⟨q0, q1, qP, va_K.moved (u := U) (U := U.calling g mk a) (Vm.Alike.refl U.vm) qK, qD⟩, va_recv hK hP (ci := 11) (q0 := 0) rfl rfl, fun U hU hW => ⟨rfl, by rw [hU], by rw [hU]; exact hPc, va_K.moved hW.alike hKc, hDc.weaken (fun _ _ _ _ => trivial)⟩⟩ rfl rfl hl.1 rfl (lv_room (Nat.le_of_ble_eq_true rfl)) dX11_goesOn_3 ⟨Nat.le_of_ble_eq_true rfl, Nat.le_of_ble_eq_true rfl⟩) hS (fun q _ h => hFc q h) hFc (fun r_2 u t H1 locs ht hvm hw hB hz1 hk1 hS => ?_)
  obtain ⟨hP1, hK1, hD1⟩ := hB
  rw [ht] at hP1
  try dsimp only at hw
  obtain ⟨hP, hD⟩ := va_join (wr := [(sl, .inl (cT, 8, .inr (.inr (.inr (.inr fT)))))]) (w1 := [(h0, .inr (11, [.ref sl, .ref walker_, .ref rd, .ref machine_, .ref trial_, .ref dk])), (rd, .inr (4, [.ref lenses_, .int 0, .int 0, .int 0, .int (-1), .int (-1), .ref tp, .ref names_, .ref quoted_, .ref links_, .ref walker2_, .int 0, .int 0, .int 0]))]) hP hD [0, 2] [1] rfl rfl (by decide) (by decide) hk1 hFc hP1 hD1
  clear hk1 hz1 hPc hDc hFc hP1 hD1 hK1 hKc
  generalize H1 = H at hP hS ⊢
  have hP : va_P (dC, dI) cls [(sl, .inl (cT, 8, .inr (.inr (.inr (.inr fT))))), (h0, .inr (11, [.ref sl, .ref walker_, .ref rd, .ref machine_, .ref trial_, .ref dk])), (rd, .inr (4, [.ref lenses_, .int 0, .int 0, .int 0, .int (-1), .int (-1), .ref tp, .ref names_, .ref quoted_, .ref links_, .ref walker2_, .int 0, .int 0, .int 0]))] H := hP
  have hD : va_D A [(sl, .inl (cT, 8, .inr (.inr (.inr (.inr fT))))), (h0, .inr (11, [.ref sl, .ref walker_, .ref rd, .ref machine_, .ref trial_, .ref dk])), (rd, .inr (4, [.ref lenses_, .int 0, .int 0, .int 0, .int (-1), .int (-1), .ref tp, .ref names_, .ref quoted_, .ref links_, .ref walker2_, .int 0, .int 0, .int 0]))] := hD
  obtain rfl := hw
  refine W.eq (g2 := F0 m 6 ls [.null]) rfl ?_
  refine lv_astoreN (lv' := [(5, .null), (0, .ref h0), (1, .int v1), (2, .int v2), (3, .int v3), (4, .int v4)]) hx hb dX11_goesOn_6 hl (by decide) rfl (fun ls hl => ?_)
  refine lv_aload_n hx hb dX11_goesOn_8 rfl (lv_at hl 1 rfl) ?_
  refine lv_iload_n hx hb dX11_goesOn_9 rfl (lv_at hl 4 rfl) ?_
  have hPc := hP.sub (ws' := [(h0, .inr (11, [.ref sl, .ref walker_, .ref rd, .ref machine_, .ref trial_, .ref dk])), (sl, .inl (cT, 8, .inr (.inr (.inr (.inr fT)))))]) [1, 0] rfl
  have hDc := hD.sub (ws' := [(h0, .inr (11, [.ref sl, .ref walker_, .ref rd, .ref machine_, .ref trial_, .ref dk])), (sl, .inl (cT, 8, .inr (.inr (.inr (.inr fT)))))]) [1, 0] (by decide) rfl
  have hKc := hK.sub (tys' := [(cT, .object RX6)]) [0] rfl
  have hFc := va_free (wc := [(h0, .inr (11, [.ref sl, .ref walker_, .ref rd, .ref machine_, .ref trial_, .ref dk])), (sl, .inl (cT, 8, .inr (.inr (.inr (.inr fT)))))]) hD hS hA [1, 0] rfl
  refine va_callq (va_runV (As := [.int v3]) (rest := []) ⟨hx, hb, hml, hown, hts⟩ (k_slotAt l dC dI H.size h0 v3 sl walker_ rd machine_ trial_ dk cT fT hf) (cwV 1 hts gk_goesOn_74 rfl rfl rfl (by decide +kernel) ⟨Nat.le_of_ble_eq_true rfl, Nat.le_of_ble_eq_true rfl⟩) ⟨fun a U g mk q => by obtain ⟨q0, q1, qP, qK, qD⟩ := q; exact ⟨q0, q1, qP, va_K.moved (u := U) (U := U.calling g mk a) (Vm.Alike.refl U.vm) qK, qD⟩, va_recv hK hP (ci := 11) (q0 := 1) rfl rfl, fun U hU hW => ⟨rfl, by rw [hU], by rw [hU]; exact hPc, va_K.moved hW.alike hKc, hDc.weaken (fun _ _ _ _ => trivial)⟩⟩ rfl rfl hl.1 rfl (lv_room (Nat.le_of_ble_eq_true rfl)) dX11_goesOn_10 ⟨Nat.le_of_ble_eq_true rfl, Nat.le_of_ble_eq_true rfl⟩) hS (fun q _ h => hFc q h) hFc (fun r_4 u t H1 locs ht hvm hw hB hz1 hk1 hS => ?_)
  obtain ⟨hP1, hK1, hD1⟩ := hB
  rw [ht] at hP1
  try dsimp only at hw
  obtain ⟨hP, hD⟩ := va_join (wr := [(rd, .inr (4, [.ref lenses_, .int 0, .int 0, .int 0, .int (-1), .int (-1), .ref tp, .ref names_, .ref quoted_, .ref links_, .ref walker2_, .int 0, .int 0, .int 0]))]) (w1 := [(h0, .inr (11, [.ref sl, .ref walker_, .ref rd, .ref machine_, .ref trial_, .ref dk])), (sl, .inl (cT, 8, .inr (.inr (.inr (.inr fT)))))]) hP hD [1, 0] [2] rfl rfl (by decide) (by decide) hk1 hFc hP1 hD1
  clear hk1 hz1 hPc hDc hFc hP1 hD1 hK1 hKc
  generalize H1 = H at hP hS ⊢
  have hP : va_P (dC, dI) cls [(rd, .inr (4, [.ref lenses_, .int 0, .int 0, .int 0, .int (-1), .int (-1), .ref tp, .ref names_, .ref quoted_, .ref links_, .ref walker2_, .int 0, .int 0, .int 0])), (h0, .inr (11, [.ref sl, .ref walker_, .ref rd, .ref machine_, .ref trial_, .ref dk])), (sl, .inl (cT, 8, .inr (.inr (.inr (.inr fT)))))] H := hP
  have hD : va_D A [(rd, .inr (4, [.ref lenses_, .int 0, .int 0, .int 0, .int (-1), .int (-1), .ref tp, .ref names_, .ref quoted_, .ref links_, .ref walker2_, .int 0, .int 0, .int 0])), (h0, .inr (11, [.ref sl, .ref walker_, .ref rd, .ref machine_, .ref trial_, .ref dk])), (sl, .inl (cT, 8, .inr (.inr (.inr (.inr fT)))))] := hD
  rcases hw with ⟨f_5, rfl⟩ | ⟨f_5, rfl⟩
  · skip
    obtain ⟨t_6, et_6⟩ := hf v3 f_5
    refine W.eq (g2 := F0 m 13 ls [.ref t_6]) (by rw [et_6]; rfl) ?_
    refine lv_astore (lv' := [(6, .ref t_6), (5, .null), (0, .ref h0), (1, .int v1), (2, .int v2), (3, .int v3), (4, .int v4)]) hx hb dX11_goesOn_13 hl (by decide) rfl (fun ls hl => ?_)
    refine lv_aloadN hx hb dX11_goesOn_15 (lv_at hl 1 rfl) ?_
    refine lv_ifnullN (tgt := 25) hx hb dX11_goesOn_17 (by decide) ?_
    refine lv_iconst (v := (-1)) hx hb dX11_goesOn_25 (by decide) ?_
    refine lv_goto (tgt := 36) hx hb dX11_goesOn_26 (by decide) ?_
    refine lv_istore (lv' := [(7, .int (-1)), (6, .ref t_6), (5, .null), (0, .ref h0), (1, .int v1), (2, .int v2), (3, .int v3), (4, .int v4)]) hx hb dX11_goesOn_36 hl (by decide) rfl (fun ls hl => ?_)
    refine lv_iload hx hb dX11_goesOn_38 (lv_at hl 0 rfl) ?_
    refine lv_iconst (v := (-1)) hx hb dX11_goesOn_40 (by decide) ?_
    refine lv_icmp_ne (tgt := 46) hx hb dX11_goesOn_41 (by decide) (fun c_7 => ?_) (fun c_7 => ?_)
    · exact (by revert c_7; decide : False).elim
    refine lv_iconst (v := (-1)) hx hb dX11_goesOn_44 (by decide) ?_
    have hK9 := hK.sub (tys' := [(cT, .object RX6)]) [0] rfl
    have hP9 := hP.sub (ws' := []) [] rfl
    have hD9 := hD.sub (ws' := []) [] (by decide) rfl
    exact W.iret (v := (-1)) hx hb hr (fun t ht hW => ⟨⟨(-1), (), rfl, rfl, by rw [ht]; exact hP9, va_K.moved hW.alike hK9, hD9⟩, hS.F ht⟩) hS.2.2 dX11_goesOn_45
  · skip
    refine W.eq (g2 := F0 m 13 ls [.null]) rfl ?_
    refine lv_astoreN (lv' := [(6, .null), (5, .null), (0, .ref h0), (1, .int v1), (2, .int v2), (3, .int v3), (4, .int v4)]) hx hb dX11_goesOn_13 hl (by decide) rfl (fun ls hl => ?_)
    refine lv_aloadN hx hb dX11_goesOn_15 (lv_at hl 1 rfl) ?_
    refine lv_ifnullN (tgt := 25) hx hb dX11_goesOn_17 (by decide) ?_
    refine lv_iconst (v := (-1)) hx hb dX11_goesOn_25 (by decide) ?_
    refine lv_goto (tgt := 36) hx hb dX11_goesOn_26 (by decide) ?_
    refine lv_istore (lv' := [(7, .int (-1)), (6, .null), (5, .null), (0, .ref h0), (1, .int v1), (2, .int v2), (3, .int v3), (4, .int v4)]) hx hb dX11_goesOn_36 hl (by decide) rfl (fun ls hl => ?_)
    refine lv_iload hx hb dX11_goesOn_38 (lv_at hl 0 rfl) ?_
    refine lv_iconst (v := (-1)) hx hb dX11_goesOn_40 (by decide) ?_
    refine lv_icmp_ne (tgt := 46) hx hb dX11_goesOn_41 (by decide) (fun c_8 => ?_) (fun c_8 => ?_)
    · exact (by revert c_8; decide : False).elim
    refine lv_iconst (v := (-1)) hx hb dX11_goesOn_44 (by decide) ?_
    have hK9 := hK.sub (tys' := [(cT, .object RX6)]) [0] rfl
    have hP9 := hP.sub (ws' := []) [] rfl
    have hD9 := hD.sub (ws' := []) [] (by decide) rfl
    exact W.iret (v := (-1)) hx hb hr (fun t ht hW => ⟨⟨(-1), (), rfl, rfl, by rw [ht]; exact hP9, va_K.moved hW.alike hK9, hD9⟩, hS.F ht⟩) hS.2.2 dX11_goesOn_45
def wk_parts : List Cond := .code yX11_parts cX11_parts 5 (some .int) :: ([.methodLink RX11 105 yX11_lensAt, .instanceMethod yX11_lensAt, .selects RX11 yX11_lensAt yX11_lensAt, .initialized RX11, .code yX11_lensAt cX11_lensAt 2 (some (.object "PutBack$Lens")), .fieldLink RX11 27 "PutBack" "reader" "LPutBack$Reader;", .fieldLink RX11 259 "PutBack$Reader" "told" "I", .methodLink RX11 166 yX11_repeatedOf, .static yX11_repeatedOf, .code yX11_repeatedOf cX11_repeatedOf 3 (some (.object "PutBack$Lens")), .methodLink RX11 74 yX11_slotAt, .instanceMethod yX11_slotAt, .selects RX11 yX11_slotAt yX11_slotAt, .code yX11_slotAt cX11_slotAt 2 (some (.object "PutBack$Text")), .fieldLink RX11 11 "PutBack" "slots" "[LPutBack$Text;"] ++ wsX40 ++ wsX110)
theorem ik_parts_RX4 : ∀ w ∈ u_ws RX4 TX4 14, w ∈ wk_parts := fun w h => List.mem_cons_of_mem _ (List.mem_append_left _ (List.mem_append_right _ h))
theorem ik_parts_RX11 : ∀ w ∈ u_ws RX11 TX11 6, w ∈ wk_parts := fun w h => List.mem_cons_of_mem _ (List.mem_append_right _ h)
theorem gk_parts_105g : GoodIn wk_parts wk_lensAt := goodIn_r _ [5, 6, 7, 16, 17, 18, 19, 20, 21, 22, 23, 24, 25, 26, 27, 28, 29, 30, 31, 32, 33, 34, 35] (by decide +kernel) (by decide +kernel)
theorem gk_parts_105 : GoodIn wk_parts (wsV RX11 105 RX11 yX11_lensAt wk_lensAt) := goodIn_app (goodIn_of _ (by decide +kernel)) gk_parts_105g
theorem gk_parts_166g : GoodIn wk_parts wk_repeatedOf := goodIn_r _ [10] (by decide +kernel) (by decide +kernel)
theorem gk_parts_166 : GoodIn wk_parts (wsS RX11 166 yX11_repeatedOf wk_repeatedOf) := goodIn_app (goodIn_of _ (by decide +kernel)) gk_parts_166g
theorem gk_parts_74g : GoodIn wk_parts wk_slotAt := goodIn_r _ [14, 15, 30, 31, 32, 33, 34, 35] (by decide +kernel) (by decide +kernel)
theorem gk_parts_74 : GoodIn wk_parts (wsV RX11 74 RX11 yX11_slotAt wk_slotAt) := goodIn_app (goodIn_of _ (by decide +kernel)) gk_parts_74g
set_option maxHeartbeats 4000000 in
set_option maxRecDepth 100000 in
theorem k_parts (l : Launch) (dC : Nat → ClassId) (dI : Nat → Nat → Nat) (sz : Nat) (h0 : Nat) (v1 : Int32) (v2 : Int32) (sl : Nat) (walker_ : Nat) (rd : Nat) (machine_ : Nat) (trial_ : Nat) (dk : Nat) (cT : ClassId) (fT : Nat → Option Nat) (lenses_ : Nat) (tp : Nat) (names_ : Nat) (quoted_ : Nat) (links_ : Nat) (walker2_ : Nat) (hf : ∀ i : Int32, inS i → ∃ t, fT i.toNatClampNeg = some t) : Met l yX11_parts wk_parts ({ frames := 1, cells := 0, slots := 0, locals := 22 } : Room) (va_Pc [.ref h0, .int v1, .int v2] (fun U => U.heap.size = sz ∧ va_P (dC, dI) cls [(h0, .inr (11, [.ref sl, .ref walker_, .ref rd, .ref machine_, .ref trial_, .ref dk])), (sl, .inl (cT, 8, .inr (.inr (.inr (.inr fT))))), (rd, .inr (4, [.ref lenses_, .int 0, .int 0, .int 0, .int (-1), .int (-1), .ref tp, .ref names_, .ref quoted_, .ref links_, .ref walker2_, .int 0, .int 0, .int 0]))] U.heap ∧ va_K (dC, dI) cls [(cT, .object RX6)] U ∧ va_D (fun _ => True) [(h0, .inr (11, [.ref sl, .ref walker_, .ref rd, .ref machine_, .ref trial_, .ref dk])), (sl, .inl (cT, 8, .inr (.inr (.inr (.inr fT))))), (rd, .inr (4, [.ref lenses_, .int 0, .int 0, .int 0, .int (-1), .int (-1), .ref tp, .ref names_, .ref quoted_, .ref links_, .ref walker2_, .int 0, .int 0, .int 0]))])) (va_Qi (fun (r : Int32) (_ : Unit) => r = -1) (fun (_ : Unit) t => va_P (dC, dI) cls [] t.heap ∧ va_K (dC, dI) cls [(cT, .object RX6)] t ∧ va_D (va_A [(h0, .inr (11, [.ref sl, .ref walker_, .ref rd, .ref machine_, .ref trial_, .ref dk])), (sl, .inl (cT, 8, .inr (.inr (.inr (.inr fT))))), (rd, .inr (4, [.ref lenses_, .int 0, .int 0, .int 0, .int (-1), .int (-1), .ref tp, .ref names_, .ref quoted_, .ref links_, .ref walker2_, .int 0, .int 0, .int 0]))] sz) []) (va_A [(h0, .inr (11, [.ref sl, .ref walker_, .ref rd, .ref machine_, .ref trial_, .ref dk])), (sl, .inl (cT, 8, .inr (.inr (.inr (.inr fT))))), (rd, .inr (4, [.ref lenses_, .int 0, .int 0, .int 0, .int (-1), .int (-1), .ref tp, .ref names_, .ref quoted_, .ref links_, .ref walker2_, .int 0, .int 0, .int 0]))] sz)) 0 0 (va_A [(h0, .inr (11, [.ref sl, .ref walker_, .ref rd, .ref machine_, .ref trial_, .ref dk])), (sl, .inl (cT, 8, .inr (.inr (.inr (.inr fT))))), (rd, .inr (4, [.ref lenses_, .int 0, .int 0, .int 0, .int (-1), .int (-1), .ref tp, .ref names_, .ref quoted_, .ref links_, .ref walker2_, .int 0, .int 0, .int 0]))] sz) := by
  refine Met.ofW (cc := cX11_parts) (maxL := 5) (ret := (some .int)) (by decide) rfl ?_
  intro p e s m args below meth c s₁ B hml hv
  obtain ⟨rfl, hsz, hP, hK, hD0⟩ := hv
  have hx := B.exec
  have hb := B.bytes
  have hr := B.returns
  have hts := atoms_spec (ws := wk_parts) B.pre
  have hown : s.vm.findClass RX11 = some m.cls := findClass_of_methodNamed B.named
  have hlocks := B.notSynchronized
  subst hsz
  have hD := hD0.self (sz := s.heap.size)
  generalize hAe : va_A [(h0, .inr (11, [.ref sl, .ref walker_, .ref rd, .ref machine_, .ref trial_, .ref dk])), (sl, .inl (cT, 8, .inr (.inr (.inr (.inr fT))))), (rd, .inr (4, [.ref lenses_, .int 0, .int 0, .int 0, .int (-1), .int (-1), .ref tp, .ref names_, .ref quoted_, .ref links_, .ref walker2_, .int 0, .int 0, .int 0]))] s.heap.size = A at hD ⊢
  have hA : ∀ q : Nat, s.heap.size ≤ q → A q := fun q h => by rw [← hAe]; exact Or.inr h
  have hP : va_P (dC, dI) cls [(h0, .inr (11, [.ref sl, .ref walker_, .ref rd, .ref machine_, .ref trial_, .ref dk])), (sl, .inl (cT, 8, .inr (.inr (.inr (.inr fT))))), (rd, .inr (4, [.ref lenses_, .int 0, .int 0, .int 0, .int (-1), .int (-1), .ref tp, .ref names_, .ref quoted_, .ref links_, .ref walker2_, .int 0, .int 0, .int 0]))] s.heap := hP
  have hl := lv_entry ([.ref h0, .int v1, .int v2]) (n := 5) (Nat.le_of_ble_eq_true rfl)
  rw [lg_entry_eq]
  generalize (lg_sl ([.ref h0, .int v1, .int v2]) ++ List.replicate (5 - (lg_sl ([.ref h0, .int v1, .int v2])).length) Slot.unset).toArray = ls at hl ⊢
  have hl : lv_has ls 5 [(0, .ref h0), (1, .int v1), (2, .int v2)] := hl
  obtain ⟨H, hH⟩ : ∃ H : Heap, s.heap = H := ⟨_, rfl⟩
  rw [hH] at hP ⊢
  have hS : va_S A s.heap H [] := by rw [← hH]; exact va_S.rf
  refine lv_aload_n hx hb dX11_parts_0 rfl (lv_at hl 0 rfl) ?_
  refine lv_iload_n hx hb dX11_parts_1 rfl (lv_at hl 1 rfl) ?_
  have hPc := hP.sub (ws' := [(h0, .inr (11, [.ref sl, .ref walker_, .ref rd, .ref machine_, .ref trial_, .ref dk])), (rd, .inr (4, [.ref lenses_, .int 0, .int 0, .int 0, .int (-1), .int (-1), .ref tp, .ref names_, .ref quoted_, .ref links_, .ref walker2_, .int 0, .int 0, .int 0]))]) [0, 2] rfl
  have hDc := hD.sub (ws' := [(h0, .inr (11, [.ref sl, .ref walker_, .ref rd, .ref machine_, .ref trial_, .ref dk])), (rd, .inr (4, [.ref lenses_, .int 0, .int 0, .int 0, .int (-1), .int (-1), .ref tp, .ref names_, .ref quoted_, .ref links_, .ref walker2_, .int 0, .int 0, .int 0]))]) [0, 2] (by decide) rfl
  have hKc := hK.sub (tys' := []) [] rfl
  have hFc := va_free (wc := [(h0, .inr (11, [.ref sl, .ref walker_, .ref rd, .ref machine_, .ref trial_, .ref dk])), (rd, .inr (4, [.ref lenses_, .int 0, .int 0, .int 0, .int (-1), .int (-1), .ref tp, .ref names_, .ref quoted_, .ref links_, .ref walker2_, .int 0, .int 0, .int 0]))]) hD hS hA [0, 2] rfl
  refine va_callq (va_runV (As := [.int v1]) (rest := []) ⟨hx, hb, hml, hown, hts⟩ (k_lensAt l dC dI H.size h0 v1 sl walker_ rd machine_ trial_ dk lenses_ tp names_ quoted_ links_ walker2_) (cwV 1 hts gk_parts_105 rfl rfl rfl (by decide +kernel) ⟨Nat.le_of_ble_eq_true rfl, Nat.le_of_ble_eq_true rfl⟩) ⟨fun a U g mk q => by obtain ⟨q0, q1, qP, qK, qD⟩ := q; exact ⟨q0, q1, qP, va_K.moved (u := U) (U := U.calling g mk a) (Vm.Alike.refl U.vm) qK, qD⟩, va_recv hK hP (ci := 11) (q0 := 0) rfl rfl, fun U hU hW => ⟨rfl, by rw [hU], by rw [hU]; exact hPc, va_K.moved hW.alike hKc, hDc.weaken (fun _ _ _ _ => trivial)⟩⟩ rfl rfl hl.1 rfl (lv_room (Nat.le_of_ble_eq_true rfl)) dX11_parts_2 ⟨Nat.le_of_ble_eq_true rfl, Nat.le_of_ble_eq_true rfl⟩) hS (fun q _ h => hFc q h) hFc (fun r_2 u t H1 locs ht hvm hw hB hz1 hk1 hS => ?_)
  obtain ⟨hP1, hK1, hD1⟩ := hB
  rw [ht] at hP1
  try dsimp only at hw
  obtain ⟨hP, hD⟩ := va_join (wr := [(sl, .inl (cT, 8, .inr (.inr (.inr (.inr fT)))))]) (w1 := [(h0, .inr (11, [.ref sl, .ref walker_, .ref rd, .ref machine_, .ref trial_, .ref dk])), (rd, .inr (4, [.ref lenses_, .int 0, .int 0, .int 0, .int (-1), .int (-1), .ref tp, .ref names_, .ref quoted_, .ref links_, .ref walker2_, .int 0, .int 0, .int 0]))]) hP hD [0, 2] [1] rfl rfl (by decide) (by decide) hk1 hFc hP1 hD1
  clear hk1 hz1 hPc hDc hFc hP1 hD1 hK1 hKc
  generalize H1 = H at hP hS ⊢
  have hP : va_P (dC, dI) cls [(sl, .inl (cT, 8, .inr (.inr (.inr (.inr fT))))), (h0, .inr (11, [.ref sl, .ref walker_, .ref rd, .ref machine_, .ref trial_, .ref dk])), (rd, .inr (4, [.ref lenses_, .int 0, .int 0, .int 0, .int (-1), .int (-1), .ref tp, .ref names_, .ref quoted_, .ref links_, .ref walker2_, .int 0, .int 0, .int 0]))] H := hP
  have hD : va_D A [(sl, .inl (cT, 8, .inr (.inr (.inr (.inr fT))))), (h0, .inr (11, [.ref sl, .ref walker_, .ref rd, .ref machine_, .ref trial_, .ref dk])), (rd, .inr (4, [.ref lenses_, .int 0, .int 0, .int 0, .int (-1), .int (-1), .ref tp, .ref names_, .ref quoted_, .ref links_, .ref walker2_, .int 0, .int 0, .int 0]))] := hD
  obtain rfl := hw
  refine W.eq (g2 := F0 m 5 ls [.null]) rfl ?_
  have hPc := hP.sub (ws' := []) [] rfl
  have hDc := hD.sub (ws' := []) [] (by decide) rfl
  have hKc := hK.sub (tys' := []) [] rfl
  have hFc := va_free (wc := []) hD hS hA [] rfl
  refine va_callq (va_runS (As := [.null]) (rest := []) ⟨hx, hb, hml, hown, hts⟩ (k_repeatedOf l dC dI H.size ) (cwS 1 hts gk_parts_166 rfl rfl rfl (by decide +kernel) ⟨Nat.le_of_ble_eq_true rfl, Nat.le_of_ble_eq_true rfl⟩) ⟨fun a U g mk q => by obtain ⟨q0, q1, qP, qK, qD⟩ := q; exact ⟨q0, q1, qP, va_K.moved (u := U) (U := U.calling g mk a) (Vm.Alike.refl U.vm) qK, qD⟩, fun U hU hW => ⟨rfl, by rw [hU], by rw [hU]; exact hPc, va_K.moved hW.alike hKc, hDc.weaken (fun _ _ _ _ => trivial)⟩⟩ rfl rfl hl.1 rfl (lv_room (Nat.le_of_ble_eq_true rfl)) dX11_parts_5 ⟨Nat.le_of_ble_eq_true rfl, Nat.le_of_ble_eq_true rfl⟩) hS (fun q _ h => hFc q h) hFc (fun r_4 u t H1 locs ht hvm hw hB hz1 hk1 hS => ?_)
  obtain ⟨hP1, hK1, hD1⟩ := hB
  rw [ht] at hP1
  try dsimp only at hw
  obtain ⟨hP, hD⟩ := va_join (wr := [(sl, .inl (cT, 8, .inr (.inr (.inr (.inr fT))))), (h0, .inr (11, [.ref sl, .ref walker_, .ref rd, .ref machine_, .ref trial_, .ref dk])), (rd, .inr (4, [.ref lenses_, .int 0, .int 0, .int 0, .int (-1), .int (-1), .ref tp, .ref names_, .ref quoted_, .ref links_, .ref walker2_, .int 0, .int 0, .int 0]))]) (w1 := []) hP hD [] [0, 1, 2] rfl rfl (by decide) (by decide) hk1 hFc hP1 hD1
  clear hk1 hz1 hPc hDc hFc hP1 hD1 hK1 hKc
  generalize H1 = H at hP hS ⊢
  have hP : va_P (dC, dI) cls [(sl, .inl (cT, 8, .inr (.inr (.inr (.inr fT))))), (h0, .inr (11, [.ref sl, .ref walker_, .ref rd, .ref machine_, .ref trial_, .ref dk])), (rd, .inr (4, [.ref lenses_, .int 0, .int 0, .int 0, .int (-1), .int (-1), .ref tp, .ref names_, .ref quoted_, .ref links_, .ref walker2_, .int 0, .int 0, .int 0]))] H := hP
  have hD : va_D A [(sl, .inl (cT, 8, .inr (.inr (.inr (.inr fT))))), (h0, .inr (11, [.ref sl, .ref walker_, .ref rd, .ref machine_, .ref trial_, .ref dk])), (rd, .inr (4, [.ref lenses_, .int 0, .int 0, .int 0, .int (-1), .int (-1), .ref tp, .ref names_, .ref quoted_, .ref links_, .ref walker2_, .int 0, .int 0, .int 0]))] := hD
  obtain rfl := hw
  refine W.eq (g2 := F0 m 8 ls [.null]) rfl ?_
  refine lv_astore_nN (lv' := [(3, .null), (0, .ref h0), (1, .int v1), (2, .int v2)]) hx hb dX11_parts_8 rfl hl (by decide) rfl (fun ls hl => ?_)
  refine lv_aload_n hx hb dX11_parts_9 rfl (lv_at hl 1 rfl) ?_
  refine lv_iload_n hx hb dX11_parts_10 rfl (lv_at hl 3 rfl) ?_
  have hPc := hP.sub (ws' := [(h0, .inr (11, [.ref sl, .ref walker_, .ref rd, .ref machine_, .ref trial_, .ref dk])), (sl, .inl (cT, 8, .inr (.inr (.inr (.inr fT)))))]) [1, 0] rfl
  have hDc := hD.sub (ws' := [(h0, .inr (11, [.ref sl, .ref walker_, .ref rd, .ref machine_, .ref trial_, .ref dk])), (sl, .inl (cT, 8, .inr (.inr (.inr (.inr fT)))))]) [1, 0] (by decide) rfl
  have hKc := hK.sub (tys' := [(cT, .object RX6)]) [0] rfl
  have hFc := va_free (wc := [(h0, .inr (11, [.ref sl, .ref walker_, .ref rd, .ref machine_, .ref trial_, .ref dk])), (sl, .inl (cT, 8, .inr (.inr (.inr (.inr fT)))))]) hD hS hA [1, 0] rfl
  refine va_callq (va_runV (As := [.int v2]) (rest := []) ⟨hx, hb, hml, hown, hts⟩ (k_slotAt l dC dI H.size h0 v2 sl walker_ rd machine_ trial_ dk cT fT hf) (cwV 1 hts gk_parts_74 rfl rfl rfl (by decide +kernel) ⟨Nat.le_of_ble_eq_true rfl, Nat.le_of_ble_eq_true rfl⟩) ⟨fun a U g mk q => by obtain ⟨q0, q1, qP, qK, qD⟩ := q; exact ⟨q0, q1, qP, va_K.moved (u := U) (U := U.calling g mk a) (Vm.Alike.refl U.vm) qK, qD⟩, va_recv hK hP (ci := 11) (q0 := 1) rfl rfl, fun U hU hW => ⟨rfl, by rw [hU], by rw [hU]; exact hPc, va_K.moved hW.alike hKc, hDc.weaken (fun _ _ _ _ => trivial)⟩⟩ rfl rfl hl.1 rfl (lv_room (Nat.le_of_ble_eq_true rfl)) dX11_parts_11 ⟨Nat.le_of_ble_eq_true rfl, Nat.le_of_ble_eq_true rfl⟩) hS (fun q _ h => hFc q h) hFc (fun r_6 u t H1 locs ht hvm hw hB hz1 hk1 hS => ?_)
  obtain ⟨hP1, hK1, hD1⟩ := hB
  rw [ht] at hP1
  try dsimp only at hw
  obtain ⟨hP, hD⟩ := va_join (wr := [(rd, .inr (4, [.ref lenses_, .int 0, .int 0, .int 0, .int (-1), .int (-1), .ref tp, .ref names_, .ref quoted_, .ref links_, .ref walker2_, .int 0, .int 0, .int 0]))]) (w1 := [(h0, .inr (11, [.ref sl, .ref walker_, .ref rd, .ref machine_, .ref trial_, .ref dk])), (sl, .inl (cT, 8, .inr (.inr (.inr (.inr fT)))))]) hP hD [1, 0] [2] rfl rfl (by decide) (by decide) hk1 hFc hP1 hD1
  clear hk1 hz1 hPc hDc hFc hP1 hD1 hK1 hKc
  generalize H1 = H at hP hS ⊢
  have hP : va_P (dC, dI) cls [(rd, .inr (4, [.ref lenses_, .int 0, .int 0, .int 0, .int (-1), .int (-1), .ref tp, .ref names_, .ref quoted_, .ref links_, .ref walker2_, .int 0, .int 0, .int 0])), (h0, .inr (11, [.ref sl, .ref walker_, .ref rd, .ref machine_, .ref trial_, .ref dk])), (sl, .inl (cT, 8, .inr (.inr (.inr (.inr fT)))))] H := hP
  have hD : va_D A [(rd, .inr (4, [.ref lenses_, .int 0, .int 0, .int 0, .int (-1), .int (-1), .ref tp, .ref names_, .ref quoted_, .ref links_, .ref walker2_, .int 0, .int 0, .int 0])), (h0, .inr (11, [.ref sl, .ref walker_, .ref rd, .ref machine_, .ref trial_, .ref dk])), (sl, .inl (cT, 8, .inr (.inr (.inr (.inr fT)))))] := hD
  rcases hw with ⟨f_7, rfl⟩ | ⟨f_7, rfl⟩
  · skip
    obtain ⟨t_8, et_8⟩ := hf v2 f_7
    refine W.eq (g2 := F0 m 14 ls [.ref t_8]) (by rw [et_8]; rfl) ?_
    refine lv_astore (lv' := [(4, .ref t_8), (3, .null), (0, .ref h0), (1, .int v1), (2, .int v2)]) hx hb dX11_parts_14 hl (by decide) rfl (fun ls hl => ?_)
    refine lv_aload_nN hx hb dX11_parts_16 rfl (lv_at hl 1 rfl) ?_
    refine lv_ifnullN (tgt := 25) hx hb dX11_parts_17 (by decide) ?_
    refine lv_iconst (v := (-1)) hx hb dX11_parts_25 (by decide) ?_
    have hK9 := hK.sub (tys' := [(cT, .object RX6)]) [0] rfl
    have hP9 := hP.sub (ws' := []) [] rfl
    have hD9 := hD.sub (ws' := []) [] (by decide) rfl
    exact W.iret (v := (-1)) hx hb hr (fun t ht hW => ⟨⟨(-1), (), rfl, rfl, by rw [ht]; exact hP9, va_K.moved hW.alike hK9, hD9⟩, hS.F ht⟩) hS.2.2 dX11_parts_26
  · skip
    refine W.eq (g2 := F0 m 14 ls [.null]) rfl ?_
    refine lv_astoreN (lv' := [(4, .null), (3, .null), (0, .ref h0), (1, .int v1), (2, .int v2)]) hx hb dX11_parts_14 hl (by decide) rfl (fun ls hl => ?_)
    refine lv_aload_nN hx hb dX11_parts_16 rfl (lv_at hl 1 rfl) ?_
    refine lv_ifnullN (tgt := 25) hx hb dX11_parts_17 (by decide) ?_
    refine lv_iconst (v := (-1)) hx hb dX11_parts_25 (by decide) ?_
    have hK9 := hK.sub (tys' := [(cT, .object RX6)]) [0] rfl
    have hP9 := hP.sub (ws' := []) [] rfl
    have hD9 := hD.sub (ws' := []) [] (by decide) rfl
    exact W.iret (v := (-1)) hx hb hr (fun t ht hW => ⟨⟨(-1), (), rfl, rfl, by rw [ht]; exact hP9, va_K.moved hW.alike hK9, hD9⟩, hS.F ht⟩) hS.2.2 dX11_parts_26
def wk_aligned : List Cond := .code yX11_aligned cX11_aligned 8 (some .int) :: ([.methodLink RX11 105 yX11_lensAt, .instanceMethod yX11_lensAt, .selects RX11 yX11_lensAt yX11_lensAt, .initialized RX11, .code yX11_lensAt cX11_lensAt 2 (some (.object "PutBack$Lens")), .fieldLink RX11 27 "PutBack" "reader" "LPutBack$Reader;", .fieldLink RX11 259 "PutBack$Reader" "told" "I", .methodLink RX11 74 yX11_slotAt, .instanceMethod yX11_slotAt, .selects RX11 yX11_slotAt yX11_slotAt, .code yX11_slotAt cX11_slotAt 2 (some (.object "PutBack$Text")), .fieldLink RX11 11 "PutBack" "slots" "[LPutBack$Text;"] ++ wsX40 ++ wsX110)
theorem ik_aligned_RX4 : ∀ w ∈ u_ws RX4 TX4 14, w ∈ wk_aligned := fun w h => List.mem_cons_of_mem _ (List.mem_append_left _ (List.mem_append_right _ h))
theorem ik_aligned_RX11 : ∀ w ∈ u_ws RX11 TX11 6, w ∈ wk_aligned := fun w h => List.mem_cons_of_mem _ (List.mem_append_right _ h)
theorem gk_aligned_105g : GoodIn wk_aligned wk_lensAt := goodIn_r _ [5, 6, 7, 13, 14, 15, 16, 17, 18, 19, 20, 21, 22, 23, 24, 25, 26, 27, 28, 29, 30, 31, 32] (by decide +kernel) (by decide +kernel)
theorem gk_aligned_105 : GoodIn wk_aligned (wsV RX11 105 RX11 yX11_lensAt wk_lensAt) := goodIn_app (goodIn_of _ (by decide +kernel)) gk_aligned_105g
theorem gk_aligned_74g : GoodIn wk_aligned wk_slotAt := goodIn_r _ [11, 12, 27, 28, 29, 30, 31, 32] (by decide +kernel) (by decide +kernel)
theorem gk_aligned_74 : GoodIn wk_aligned (wsV RX11 74 RX11 yX11_slotAt wk_slotAt) := goodIn_app (goodIn_of _ (by decide +kernel)) gk_aligned_74g
set_option maxHeartbeats 4000000 in
set_option maxRecDepth 100000 in
theorem k_aligned (l : Launch) (dC : Nat → ClassId) (dI : Nat → Nat → Nat) (sz : Nat) (h0 : Nat) (v1 : Int32) (v2 : Int32) (v3 : Int32) (v4 : Int32) (sl : Nat) (walker_ : Nat) (rd : Nat) (machine_ : Nat) (trial_ : Nat) (dk : Nat) (cT : ClassId) (fT : Nat → Option Nat) (lenses_ : Nat) (tp : Nat) (names_ : Nat) (quoted_ : Nat) (links_ : Nat) (walker2_ : Nat) (hf : ∀ i : Int32, inS i → ∃ t, fT i.toNatClampNeg = some t) : Met l yX11_aligned wk_aligned ({ frames := 1, cells := 0, slots := 0, locals := 21 } : Room) (va_Pc [.ref h0, .int v1, .int v2, .int v3, .int v4] (fun U => U.heap.size = sz ∧ va_P (dC, dI) cls [(h0, .inr (11, [.ref sl, .ref walker_, .ref rd, .ref machine_, .ref trial_, .ref dk])), (sl, .inl (cT, 8, .inr (.inr (.inr (.inr fT))))), (rd, .inr (4, [.ref lenses_, .int 0, .int 0, .int 0, .int (-1), .int (-1), .ref tp, .ref names_, .ref quoted_, .ref links_, .ref walker2_, .int 0, .int 0, .int 0]))] U.heap ∧ va_K (dC, dI) cls [(cT, .object RX6)] U ∧ va_D (fun _ => True) [(h0, .inr (11, [.ref sl, .ref walker_, .ref rd, .ref machine_, .ref trial_, .ref dk])), (sl, .inl (cT, 8, .inr (.inr (.inr (.inr fT))))), (rd, .inr (4, [.ref lenses_, .int 0, .int 0, .int 0, .int (-1), .int (-1), .ref tp, .ref names_, .ref quoted_, .ref links_, .ref walker2_, .int 0, .int 0, .int 0]))])) (va_Qi (fun (r : Int32) (_ : Unit) => r = -1) (fun (_ : Unit) t => va_P (dC, dI) cls [] t.heap ∧ va_K (dC, dI) cls [(cT, .object RX6)] t ∧ va_D (va_A [(h0, .inr (11, [.ref sl, .ref walker_, .ref rd, .ref machine_, .ref trial_, .ref dk])), (sl, .inl (cT, 8, .inr (.inr (.inr (.inr fT))))), (rd, .inr (4, [.ref lenses_, .int 0, .int 0, .int 0, .int (-1), .int (-1), .ref tp, .ref names_, .ref quoted_, .ref links_, .ref walker2_, .int 0, .int 0, .int 0]))] sz) []) (va_A [(h0, .inr (11, [.ref sl, .ref walker_, .ref rd, .ref machine_, .ref trial_, .ref dk])), (sl, .inl (cT, 8, .inr (.inr (.inr (.inr fT))))), (rd, .inr (4, [.ref lenses_, .int 0, .int 0, .int 0, .int (-1), .int (-1), .ref tp, .ref names_, .ref quoted_, .ref links_, .ref walker2_, .int 0, .int 0, .int 0]))] sz)) 0 0 (va_A [(h0, .inr (11, [.ref sl, .ref walker_, .ref rd, .ref machine_, .ref trial_, .ref dk])), (sl, .inl (cT, 8, .inr (.inr (.inr (.inr fT))))), (rd, .inr (4, [.ref lenses_, .int 0, .int 0, .int 0, .int (-1), .int (-1), .ref tp, .ref names_, .ref quoted_, .ref links_, .ref walker2_, .int 0, .int 0, .int 0]))] sz) := by
  refine Met.ofW (cc := cX11_aligned) (maxL := 8) (ret := (some .int)) (by decide) rfl ?_
  intro p e s m args below meth c s₁ B hml hv
  obtain ⟨rfl, hsz, hP, hK, hD0⟩ := hv
  have hx := B.exec
  have hb := B.bytes
  have hr := B.returns
  have hts := atoms_spec (ws := wk_aligned) B.pre
  have hown : s.vm.findClass RX11 = some m.cls := findClass_of_methodNamed B.named
  have hlocks := B.notSynchronized
  subst hsz
  have hD := hD0.self (sz := s.heap.size)
  generalize hAe : va_A [(h0, .inr (11, [.ref sl, .ref walker_, .ref rd, .ref machine_, .ref trial_, .ref dk])), (sl, .inl (cT, 8, .inr (.inr (.inr (.inr fT))))), (rd, .inr (4, [.ref lenses_, .int 0, .int 0, .int 0, .int (-1), .int (-1), .ref tp, .ref names_, .ref quoted_, .ref links_, .ref walker2_, .int 0, .int 0, .int 0]))] s.heap.size = A at hD ⊢
  have hA : ∀ q : Nat, s.heap.size ≤ q → A q := fun q h => by rw [← hAe]; exact Or.inr h
  have hP : va_P (dC, dI) cls [(h0, .inr (11, [.ref sl, .ref walker_, .ref rd, .ref machine_, .ref trial_, .ref dk])), (sl, .inl (cT, 8, .inr (.inr (.inr (.inr fT))))), (rd, .inr (4, [.ref lenses_, .int 0, .int 0, .int 0, .int (-1), .int (-1), .ref tp, .ref names_, .ref quoted_, .ref links_, .ref walker2_, .int 0, .int 0, .int 0]))] s.heap := hP
  have hl := lv_entry ([.ref h0, .int v1, .int v2, .int v3, .int v4]) (n := 8) (Nat.le_of_ble_eq_true rfl)
  rw [lg_entry_eq]
  generalize (lg_sl ([.ref h0, .int v1, .int v2, .int v3, .int v4]) ++ List.replicate (8 - (lg_sl ([.ref h0, .int v1, .int v2, .int v3, .int v4])).length) Slot.unset).toArray = ls at hl ⊢
  have hl : lv_has ls 8 [(0, .ref h0), (1, .int v1), (2, .int v2), (3, .int v3), (4, .int v4)] := hl
  obtain ⟨H, hH⟩ : ∃ H : Heap, s.heap = H := ⟨_, rfl⟩
  rw [hH] at hP ⊢
  have hS : va_S A s.heap H [] := by rw [← hH]; exact va_S.rf
  refine lv_aload_n hx hb dX11_aligned_0 rfl (lv_at hl 0 rfl) ?_
  refine lv_iload_n hx hb dX11_aligned_1 rfl (lv_at hl 1 rfl) ?_
  have hPc := hP.sub (ws' := [(h0, .inr (11, [.ref sl, .ref walker_, .ref rd, .ref machine_, .ref trial_, .ref dk])), (rd, .inr (4, [.ref lenses_, .int 0, .int 0, .int 0, .int (-1), .int (-1), .ref tp, .ref names_, .ref quoted_, .ref links_, .ref walker2_, .int 0, .int 0, .int 0]))]) [0, 2] rfl
  have hDc := hD.sub (ws' := [(h0, .inr (11, [.ref sl, .ref walker_, .ref rd, .ref machine_, .ref trial_, .ref dk])), (rd, .inr (4, [.ref lenses_, .int 0, .int 0, .int 0, .int (-1), .int (-1), .ref tp, .ref names_, .ref quoted_, .ref links_, .ref walker2_, .int 0, .int 0, .int 0]))]) [0, 2] (by decide) rfl
  have hKc := hK.sub (tys' := []) [] rfl
  have hFc := va_free (wc := [(h0, .inr (11, [.ref sl, .ref walker_, .ref rd, .ref machine_, .ref trial_, .ref dk])), (rd, .inr (4, [.ref lenses_, .int 0, .int 0, .int 0, .int (-1), .int (-1), .ref tp, .ref names_, .ref quoted_, .ref links_, .ref walker2_, .int 0, .int 0, .int 0]))]) hD hS hA [0, 2] rfl
  refine va_callq (va_runV (As := [.int v1]) (rest := []) ⟨hx, hb, hml, hown, hts⟩ (k_lensAt l dC dI H.size h0 v1 sl walker_ rd machine_ trial_ dk lenses_ tp names_ quoted_ links_ walker2_) (cwV 1 hts gk_aligned_105 rfl rfl rfl (by decide +kernel) ⟨Nat.le_of_ble_eq_true rfl, Nat.le_of_ble_eq_true rfl⟩) ⟨fun a U g mk q => by obtain ⟨q0, q1, qP, qK, qD⟩ := q; exact ⟨q0, q1, qP, va_K.moved (u := U) (U := U.calling g mk a) (Vm.Alike.refl U.vm) qK, qD⟩, va_recv hK hP (ci := 11) (q0 := 0) rfl rfl, fun U hU hW => ⟨rfl, by rw [hU], by rw [hU]; exact hPc, va_K.moved hW.alike hKc, hDc.weaken (fun _ _ _ _ => trivial)⟩⟩ rfl rfl hl.1 rfl (lv_room (Nat.le_of_ble_eq_true rfl)) dX11_aligned_2 ⟨Nat.le_of_ble_eq_true rfl, Nat.le_of_ble_eq_true rfl⟩) hS (fun q _ h => hFc q h) hFc (fun r_2 u t H1 locs ht hvm hw hB hz1 hk1 hS => ?_)
  obtain ⟨hP1, hK1, hD1⟩ := hB
  rw [ht] at hP1
  try dsimp only at hw
  obtain ⟨hP, hD⟩ := va_join (wr := [(sl, .inl (cT, 8, .inr (.inr (.inr (.inr fT)))))]) (w1 := [(h0, .inr (11, [.ref sl, .ref walker_, .ref rd, .ref machine_, .ref trial_, .ref dk])), (rd, .inr (4, [.ref lenses_, .int 0, .int 0, .int 0, .int (-1), .int (-1), .ref tp, .ref names_, .ref quoted_, .ref links_, .ref walker2_, .int 0, .int 0, .int 0]))]) hP hD [0, 2] [1] rfl rfl (by decide) (by decide) hk1 hFc hP1 hD1
  clear hk1 hz1 hPc hDc hFc hP1 hD1 hK1 hKc
  generalize H1 = H at hP hS ⊢
  have hP : va_P (dC, dI) cls [(sl, .inl (cT, 8, .inr (.inr (.inr (.inr fT))))), (h0, .inr (11, [.ref sl, .ref walker_, .ref rd, .ref machine_, .ref trial_, .ref dk])), (rd, .inr (4, [.ref lenses_, .int 0, .int 0, .int 0, .int (-1), .int (-1), .ref tp, .ref names_, .ref quoted_, .ref links_, .ref walker2_, .int 0, .int 0, .int 0]))] H := hP
  have hD : va_D A [(sl, .inl (cT, 8, .inr (.inr (.inr (.inr fT))))), (h0, .inr (11, [.ref sl, .ref walker_, .ref rd, .ref machine_, .ref trial_, .ref dk])), (rd, .inr (4, [.ref lenses_, .int 0, .int 0, .int 0, .int (-1), .int (-1), .ref tp, .ref names_, .ref quoted_, .ref links_, .ref walker2_, .int 0, .int 0, .int 0]))] := hD
  obtain rfl := hw
  refine W.eq (g2 := F0 m 5 ls [.null]) rfl ?_
  refine lv_astoreN (lv' := [(5, .null), (0, .ref h0), (1, .int v1), (2, .int v2), (3, .int v3), (4, .int v4)]) hx hb dX11_aligned_5 hl (by decide) rfl (fun ls hl => ?_)
  refine lv_aload_n hx hb dX11_aligned_7 rfl (lv_at hl 1 rfl) ?_
  refine lv_iload_n hx hb dX11_aligned_8 rfl (lv_at hl 3 rfl) ?_
  have hPc := hP.sub (ws' := [(h0, .inr (11, [.ref sl, .ref walker_, .ref rd, .ref machine_, .ref trial_, .ref dk])), (sl, .inl (cT, 8, .inr (.inr (.inr (.inr fT)))))]) [1, 0] rfl
  have hDc := hD.sub (ws' := [(h0, .inr (11, [.ref sl, .ref walker_, .ref rd, .ref machine_, .ref trial_, .ref dk])), (sl, .inl (cT, 8, .inr (.inr (.inr (.inr fT)))))]) [1, 0] (by decide) rfl
  have hKc := hK.sub (tys' := [(cT, .object RX6)]) [0] rfl
  have hFc := va_free (wc := [(h0, .inr (11, [.ref sl, .ref walker_, .ref rd, .ref machine_, .ref trial_, .ref dk])), (sl, .inl (cT, 8, .inr (.inr (.inr (.inr fT)))))]) hD hS hA [1, 0] rfl
  refine va_callq (va_runV (As := [.int v2]) (rest := []) ⟨hx, hb, hml, hown, hts⟩ (k_slotAt l dC dI H.size h0 v2 sl walker_ rd machine_ trial_ dk cT fT hf) (cwV 1 hts gk_aligned_74 rfl rfl rfl (by decide +kernel) ⟨Nat.le_of_ble_eq_true rfl, Nat.le_of_ble_eq_true rfl⟩) ⟨fun a U g mk q => by obtain ⟨q0, q1, qP, qK, qD⟩ := q; exact ⟨q0, q1, qP, va_K.moved (u := U) (U := U.calling g mk a) (Vm.Alike.refl U.vm) qK, qD⟩, va_recv hK hP (ci := 11) (q0 := 1) rfl rfl, fun U hU hW => ⟨rfl, by rw [hU], by rw [hU]; exact hPc, va_K.moved hW.alike hKc, hDc.weaken (fun _ _ _ _ => trivial)⟩⟩ rfl rfl hl.1 rfl (lv_room (Nat.le_of_ble_eq_true rfl)) dX11_aligned_9 ⟨Nat.le_of_ble_eq_true rfl, Nat.le_of_ble_eq_true rfl⟩) hS (fun q _ h => hFc q h) hFc (fun r_4 u t H1 locs ht hvm hw hB hz1 hk1 hS => ?_)
  obtain ⟨hP1, hK1, hD1⟩ := hB
  rw [ht] at hP1
  try dsimp only at hw
  obtain ⟨hP, hD⟩ := va_join (wr := [(rd, .inr (4, [.ref lenses_, .int 0, .int 0, .int 0, .int (-1), .int (-1), .ref tp, .ref names_, .ref quoted_, .ref links_, .ref walker2_, .int 0, .int 0, .int 0]))]) (w1 := [(h0, .inr (11, [.ref sl, .ref walker_, .ref rd, .ref machine_, .ref trial_, .ref dk])), (sl, .inl (cT, 8, .inr (.inr (.inr (.inr fT)))))]) hP hD [1, 0] [2] rfl rfl (by decide) (by decide) hk1 hFc hP1 hD1
  clear hk1 hz1 hPc hDc hFc hP1 hD1 hK1 hKc
  generalize H1 = H at hP hS ⊢
  have hP : va_P (dC, dI) cls [(rd, .inr (4, [.ref lenses_, .int 0, .int 0, .int 0, .int (-1), .int (-1), .ref tp, .ref names_, .ref quoted_, .ref links_, .ref walker2_, .int 0, .int 0, .int 0])), (h0, .inr (11, [.ref sl, .ref walker_, .ref rd, .ref machine_, .ref trial_, .ref dk])), (sl, .inl (cT, 8, .inr (.inr (.inr (.inr fT)))))] H := hP
  have hD : va_D A [(rd, .inr (4, [.ref lenses_, .int 0, .int 0, .int 0, .int (-1), .int (-1), .ref tp, .ref names_, .ref quoted_, .ref links_, .ref walker2_, .int 0, .int 0, .int 0])), (h0, .inr (11, [.ref sl, .ref walker_, .ref rd, .ref machine_, .ref trial_, .ref dk])), (sl, .inl (cT, 8, .inr (.inr (.inr (.inr fT)))))] := hD
  rcases hw with ⟨f_5, rfl⟩ | ⟨f_5, rfl⟩
  · skip
    obtain ⟨t_6, et_6⟩ := hf v2 f_5
    refine W.eq (g2 := F0 m 12 ls [.ref t_6]) (by rw [et_6]; rfl) ?_
    refine lv_astore (lv' := [(6, .ref t_6), (5, .null), (0, .ref h0), (1, .int v1), (2, .int v2), (3, .int v3), (4, .int v4)]) hx hb dX11_aligned_12 hl (by decide) rfl (fun ls hl => ?_)
    refine lv_aload_n hx hb dX11_aligned_14 rfl (lv_at hl 2 rfl) ?_
    refine lv_iload_n hx hb dX11_aligned_15 rfl (lv_at hl 5 rfl) ?_
    have hPc := hP.sub (ws' := [(h0, .inr (11, [.ref sl, .ref walker_, .ref rd, .ref machine_, .ref trial_, .ref dk])), (sl, .inl (cT, 8, .inr (.inr (.inr (.inr fT)))))]) [1, 2] rfl
    have hDc := hD.sub (ws' := [(h0, .inr (11, [.ref sl, .ref walker_, .ref rd, .ref machine_, .ref trial_, .ref dk])), (sl, .inl (cT, 8, .inr (.inr (.inr (.inr fT)))))]) [1, 2] (by decide) rfl
    have hKc := hK.sub (tys' := [(cT, .object RX6)]) [0] rfl
    have hFc := va_free (wc := [(h0, .inr (11, [.ref sl, .ref walker_, .ref rd, .ref machine_, .ref trial_, .ref dk])), (sl, .inl (cT, 8, .inr (.inr (.inr (.inr fT)))))]) hD hS hA [1, 2] rfl
    refine va_callq (va_runV (As := [.int v3]) (rest := []) ⟨hx, hb, hml, hown, hts⟩ (k_slotAt l dC dI H.size h0 v3 sl walker_ rd machine_ trial_ dk cT fT hf) (cwV 1 hts gk_aligned_74 rfl rfl rfl (by decide +kernel) ⟨Nat.le_of_ble_eq_true rfl, Nat.le_of_ble_eq_true rfl⟩) ⟨fun a U g mk q => by obtain ⟨q0, q1, qP, qK, qD⟩ := q; exact ⟨q0, q1, qP, va_K.moved (u := U) (U := U.calling g mk a) (Vm.Alike.refl U.vm) qK, qD⟩, va_recv hK hP (ci := 11) (q0 := 1) rfl rfl, fun U hU hW => ⟨rfl, by rw [hU], by rw [hU]; exact hPc, va_K.moved hW.alike hKc, hDc.weaken (fun _ _ _ _ => trivial)⟩⟩ rfl rfl hl.1 rfl (lv_room (Nat.le_of_ble_eq_true rfl)) dX11_aligned_16 ⟨Nat.le_of_ble_eq_true rfl, Nat.le_of_ble_eq_true rfl⟩) hS (fun q _ h => hFc q h) hFc (fun r_8 u t H1 locs ht hvm hw hB hz1 hk1 hS => ?_)
    obtain ⟨hP1, hK1, hD1⟩ := hB
    rw [ht] at hP1
    try dsimp only at hw
    obtain ⟨hP, hD⟩ := va_join (wr := [(rd, .inr (4, [.ref lenses_, .int 0, .int 0, .int 0, .int (-1), .int (-1), .ref tp, .ref names_, .ref quoted_, .ref links_, .ref walker2_, .int 0, .int 0, .int 0]))]) (w1 := [(h0, .inr (11, [.ref sl, .ref walker_, .ref rd, .ref machine_, .ref trial_, .ref dk])), (sl, .inl (cT, 8, .inr (.inr (.inr (.inr fT)))))]) hP hD [1, 2] [0] rfl rfl (by decide) (by decide) hk1 hFc hP1 hD1
    clear hk1 hz1 hPc hDc hFc hP1 hD1 hK1 hKc
    generalize H1 = H at hP hS ⊢
    have hP : va_P (dC, dI) cls [(rd, .inr (4, [.ref lenses_, .int 0, .int 0, .int 0, .int (-1), .int (-1), .ref tp, .ref names_, .ref quoted_, .ref links_, .ref walker2_, .int 0, .int 0, .int 0])), (h0, .inr (11, [.ref sl, .ref walker_, .ref rd, .ref machine_, .ref trial_, .ref dk])), (sl, .inl (cT, 8, .inr (.inr (.inr (.inr fT)))))] H := hP
    have hD : va_D A [(rd, .inr (4, [.ref lenses_, .int 0, .int 0, .int 0, .int (-1), .int (-1), .ref tp, .ref names_, .ref quoted_, .ref links_, .ref walker2_, .int 0, .int 0, .int 0])), (h0, .inr (11, [.ref sl, .ref walker_, .ref rd, .ref machine_, .ref trial_, .ref dk])), (sl, .inl (cT, 8, .inr (.inr (.inr (.inr fT)))))] := hD
    rcases hw with ⟨f_9, rfl⟩ | ⟨f_9, rfl⟩
    · skip
      obtain ⟨t_10, et_10⟩ := hf v3 f_9
      refine W.eq (g2 := F0 m 19 ls [.ref t_10]) (by rw [et_10]; rfl) ?_
      refine lv_astore (lv' := [(7, .ref t_10), (6, .ref t_6), (5, .null), (0, .ref h0), (1, .int v1), (2, .int v2), (3, .int v3), (4, .int v4)]) hx hb dX11_aligned_19 hl (by decide) rfl (fun ls hl => ?_)
      refine lv_aloadN hx hb dX11_aligned_21 (lv_at hl 2 rfl) ?_
      refine lv_ifnullN (tgt := 54) hx hb dX11_aligned_23 (by decide) ?_
      refine lv_iconst (v := (-1)) hx hb dX11_aligned_54 (by decide) ?_
      have hK9 := hK.sub (tys' := [(cT, .object RX6)]) [0] rfl
      have hP9 := hP.sub (ws' := []) [] rfl
      have hD9 := hD.sub (ws' := []) [] (by decide) rfl
      exact W.iret (v := (-1)) hx hb hr (fun t ht hW => ⟨⟨(-1), (), rfl, rfl, by rw [ht]; exact hP9, va_K.moved hW.alike hK9, hD9⟩, hS.F ht⟩) hS.2.2 dX11_aligned_55
    · skip
      refine W.eq (g2 := F0 m 19 ls [.null]) rfl ?_
      refine lv_astoreN (lv' := [(7, .null), (6, .ref t_6), (5, .null), (0, .ref h0), (1, .int v1), (2, .int v2), (3, .int v3), (4, .int v4)]) hx hb dX11_aligned_19 hl (by decide) rfl (fun ls hl => ?_)
      refine lv_aloadN hx hb dX11_aligned_21 (lv_at hl 2 rfl) ?_
      refine lv_ifnullN (tgt := 54) hx hb dX11_aligned_23 (by decide) ?_
      refine lv_iconst (v := (-1)) hx hb dX11_aligned_54 (by decide) ?_
      have hK9 := hK.sub (tys' := [(cT, .object RX6)]) [0] rfl
      have hP9 := hP.sub (ws' := []) [] rfl
      have hD9 := hD.sub (ws' := []) [] (by decide) rfl
      exact W.iret (v := (-1)) hx hb hr (fun t ht hW => ⟨⟨(-1), (), rfl, rfl, by rw [ht]; exact hP9, va_K.moved hW.alike hK9, hD9⟩, hS.F ht⟩) hS.2.2 dX11_aligned_55
  · skip
    refine W.eq (g2 := F0 m 12 ls [.null]) rfl ?_
    refine lv_astoreN (lv' := [(6, .null), (5, .null), (0, .ref h0), (1, .int v1), (2, .int v2), (3, .int v3), (4, .int v4)]) hx hb dX11_aligned_12 hl (by decide) rfl (fun ls hl => ?_)
    refine lv_aload_n hx hb dX11_aligned_14 rfl (lv_at hl 2 rfl) ?_
    refine lv_iload_n hx hb dX11_aligned_15 rfl (lv_at hl 5 rfl) ?_
    have hPc := hP.sub (ws' := [(h0, .inr (11, [.ref sl, .ref walker_, .ref rd, .ref machine_, .ref trial_, .ref dk])), (sl, .inl (cT, 8, .inr (.inr (.inr (.inr fT)))))]) [1, 2] rfl
    have hDc := hD.sub (ws' := [(h0, .inr (11, [.ref sl, .ref walker_, .ref rd, .ref machine_, .ref trial_, .ref dk])), (sl, .inl (cT, 8, .inr (.inr (.inr (.inr fT)))))]) [1, 2] (by decide) rfl
    have hKc := hK.sub (tys' := [(cT, .object RX6)]) [0] rfl
    have hFc := va_free (wc := [(h0, .inr (11, [.ref sl, .ref walker_, .ref rd, .ref machine_, .ref trial_, .ref dk])), (sl, .inl (cT, 8, .inr (.inr (.inr (.inr fT)))))]) hD hS hA [1, 2] rfl
    refine va_callq (va_runV (As := [.int v3]) (rest := []) ⟨hx, hb, hml, hown, hts⟩ (k_slotAt l dC dI H.size h0 v3 sl walker_ rd machine_ trial_ dk cT fT hf) (cwV 1 hts gk_aligned_74 rfl rfl rfl (by decide +kernel) ⟨Nat.le_of_ble_eq_true rfl, Nat.le_of_ble_eq_true rfl⟩) ⟨fun a U g mk q => by obtain ⟨q0, q1, qP, qK, qD⟩ := q; exact ⟨q0, q1, qP, va_K.moved (u := U) (U := U.calling g mk a) (Vm.Alike.refl U.vm) qK, qD⟩, va_recv hK hP (ci := 11) (q0 := 1) rfl rfl, fun U hU hW => ⟨rfl, by rw [hU], by rw [hU]; exact hPc, va_K.moved hW.alike hKc, hDc.weaken (fun _ _ _ _ => trivial)⟩⟩ rfl rfl hl.1 rfl (lv_room (Nat.le_of_ble_eq_true rfl)) dX11_aligned_16 ⟨Nat.le_of_ble_eq_true rfl, Nat.le_of_ble_eq_true rfl⟩) hS (fun q _ h => hFc q h) hFc (fun r_12 u t H1 locs ht hvm hw hB hz1 hk1 hS => ?_)
    obtain ⟨hP1, hK1, hD1⟩ := hB
    rw [ht] at hP1
    try dsimp only at hw
    obtain ⟨hP, hD⟩ := va_join (wr := [(rd, .inr (4, [.ref lenses_, .int 0, .int 0, .int 0, .int (-1), .int (-1), .ref tp, .ref names_, .ref quoted_, .ref links_, .ref walker2_, .int 0, .int 0, .int 0]))]) (w1 := [(h0, .inr (11, [.ref sl, .ref walker_, .ref rd, .ref machine_, .ref trial_, .ref dk])), (sl, .inl (cT, 8, .inr (.inr (.inr (.inr fT)))))]) hP hD [1, 2] [0] rfl rfl (by decide) (by decide) hk1 hFc hP1 hD1
    clear hk1 hz1 hPc hDc hFc hP1 hD1 hK1 hKc
    generalize H1 = H at hP hS ⊢
    have hP : va_P (dC, dI) cls [(rd, .inr (4, [.ref lenses_, .int 0, .int 0, .int 0, .int (-1), .int (-1), .ref tp, .ref names_, .ref quoted_, .ref links_, .ref walker2_, .int 0, .int 0, .int 0])), (h0, .inr (11, [.ref sl, .ref walker_, .ref rd, .ref machine_, .ref trial_, .ref dk])), (sl, .inl (cT, 8, .inr (.inr (.inr (.inr fT)))))] H := hP
    have hD : va_D A [(rd, .inr (4, [.ref lenses_, .int 0, .int 0, .int 0, .int (-1), .int (-1), .ref tp, .ref names_, .ref quoted_, .ref links_, .ref walker2_, .int 0, .int 0, .int 0])), (h0, .inr (11, [.ref sl, .ref walker_, .ref rd, .ref machine_, .ref trial_, .ref dk])), (sl, .inl (cT, 8, .inr (.inr (.inr (.inr fT)))))] := hD
    rcases hw with ⟨f_13, rfl⟩ | ⟨f_13, rfl⟩
    · skip
      obtain ⟨t_14, et_14⟩ := hf v3 f_13
      refine W.eq (g2 := F0 m 19 ls [.ref t_14]) (by rw [et_14]; rfl) ?_
      refine lv_astore (lv' := [(7, .ref t_14), (6, .null), (5, .null), (0, .ref h0), (1, .int v1), (2, .int v2), (3, .int v3), (4, .int v4)]) hx hb dX11_aligned_19 hl (by decide) rfl (fun ls hl => ?_)
      refine lv_aloadN hx hb dX11_aligned_21 (lv_at hl 2 rfl) ?_
      refine lv_ifnullN (tgt := 54) hx hb dX11_aligned_23 (by decide) ?_
      refine lv_iconst (v := (-1)) hx hb dX11_aligned_54 (by decide) ?_
      have hK9 := hK.sub (tys' := [(cT, .object RX6)]) [0] rfl
      have hP9 := hP.sub (ws' := []) [] rfl
      have hD9 := hD.sub (ws' := []) [] (by decide) rfl
      exact W.iret (v := (-1)) hx hb hr (fun t ht hW => ⟨⟨(-1), (), rfl, rfl, by rw [ht]; exact hP9, va_K.moved hW.alike hK9, hD9⟩, hS.F ht⟩) hS.2.2 dX11_aligned_55
    · skip
      refine W.eq (g2 := F0 m 19 ls [.null]) rfl ?_
      refine lv_astoreN (lv' := [(7, .null), (6, .null), (5, .null), (0, .ref h0), (1, .int v1), (2, .int v2), (3, .int v3), (4, .int v4)]) hx hb dX11_aligned_19 hl (by decide) rfl (fun ls hl => ?_)
      refine lv_aloadN hx hb dX11_aligned_21 (lv_at hl 2 rfl) ?_
      refine lv_ifnullN (tgt := 54) hx hb dX11_aligned_23 (by decide) ?_
      refine lv_iconst (v := (-1)) hx hb dX11_aligned_54 (by decide) ?_
      have hK9 := hK.sub (tys' := [(cT, .object RX6)]) [0] rfl
      have hP9 := hP.sub (ws' := []) [] rfl
      have hD9 := hD.sub (ws' := []) [] (by decide) rfl
      exact W.iret (v := (-1)) hx hb hr (fun t ht hW => ⟨⟨(-1), (), rfl, rfl, by rw [ht]; exact hP9, va_K.moved hW.alike hK9, hD9⟩, hS.F ht⟩) hS.2.2 dX11_aligned_55
def wk_key : List Cond := .code yX11_key cX11_key 8 (some .int) :: ([.methodLink RX11 105 yX11_lensAt, .instanceMethod yX11_lensAt, .selects RX11 yX11_lensAt yX11_lensAt, .initialized RX11, .code yX11_lensAt cX11_lensAt 2 (some (.object "PutBack$Lens")), .fieldLink RX11 27 "PutBack" "reader" "LPutBack$Reader;", .fieldLink RX11 259 "PutBack$Reader" "told" "I", .methodLink RX11 166 yX11_repeatedOf, .static yX11_repeatedOf, .code yX11_repeatedOf cX11_repeatedOf 3 (some (.object "PutBack$Lens")), .methodLink RX11 74 yX11_slotAt, .instanceMethod yX11_slotAt, .selects RX11 yX11_slotAt yX11_slotAt, .code yX11_slotAt cX11_slotAt 2 (some (.object "PutBack$Text")), .fieldLink RX11 11 "PutBack" "slots" "[LPutBack$Text;"] ++ wsX40 ++ wsX110)
theorem ik_key_RX4 : ∀ w ∈ u_ws RX4 TX4 14, w ∈ wk_key := fun w h => List.mem_cons_of_mem _ (List.mem_append_left _ (List.mem_append_right _ h))
theorem ik_key_RX11 : ∀ w ∈ u_ws RX11 TX11 6, w ∈ wk_key := fun w h => List.mem_cons_of_mem _ (List.mem_append_right _ h)
theorem gk_key_105g : GoodIn wk_key wk_lensAt := goodIn_r _ [5, 6, 7, 16, 17, 18, 19, 20, 21, 22, 23, 24, 25, 26, 27, 28, 29, 30, 31, 32, 33, 34, 35] (by decide +kernel) (by decide +kernel)
theorem gk_key_105 : GoodIn wk_key (wsV RX11 105 RX11 yX11_lensAt wk_lensAt) := goodIn_app (goodIn_of _ (by decide +kernel)) gk_key_105g
theorem gk_key_166g : GoodIn wk_key wk_repeatedOf := goodIn_r _ [10] (by decide +kernel) (by decide +kernel)
theorem gk_key_166 : GoodIn wk_key (wsS RX11 166 yX11_repeatedOf wk_repeatedOf) := goodIn_app (goodIn_of _ (by decide +kernel)) gk_key_166g
theorem gk_key_74g : GoodIn wk_key wk_slotAt := goodIn_r _ [14, 15, 30, 31, 32, 33, 34, 35] (by decide +kernel) (by decide +kernel)
theorem gk_key_74 : GoodIn wk_key (wsV RX11 74 RX11 yX11_slotAt wk_slotAt) := goodIn_app (goodIn_of _ (by decide +kernel)) gk_key_74g
set_option maxHeartbeats 4000000 in
set_option maxRecDepth 100000 in
theorem k_key (l : Launch) (dC : Nat → ClassId) (dI : Nat → Nat → Nat) (sz : Nat) (h0 : Nat) (v1 : Int32) (v2 : Int32) (v3 : Int32) (v4 : Int32) (sl : Nat) (walker_ : Nat) (rd : Nat) (machine_ : Nat) (trial_ : Nat) (dk : Nat) (cT : ClassId) (fT : Nat → Option Nat) (lenses_ : Nat) (tp : Nat) (names_ : Nat) (quoted_ : Nat) (links_ : Nat) (walker2_ : Nat) (hf : ∀ i : Int32, inS i → ∃ t, fT i.toNatClampNeg = some t) : Met l yX11_key wk_key ({ frames := 1, cells := 0, slots := 0, locals := 22 } : Room) (va_Pc [.ref h0, .int v1, .int v2, .int v3, .int v4] (fun U => U.heap.size = sz ∧ va_P (dC, dI) cls [(h0, .inr (11, [.ref sl, .ref walker_, .ref rd, .ref machine_, .ref trial_, .ref dk])), (sl, .inl (cT, 8, .inr (.inr (.inr (.inr fT))))), (rd, .inr (4, [.ref lenses_, .int 0, .int 0, .int 0, .int (-1), .int (-1), .ref tp, .ref names_, .ref quoted_, .ref links_, .ref walker2_, .int 0, .int 0, .int 0]))] U.heap ∧ va_K (dC, dI) cls [(cT, .object RX6)] U ∧ va_D (fun _ => True) [(h0, .inr (11, [.ref sl, .ref walker_, .ref rd, .ref machine_, .ref trial_, .ref dk])), (sl, .inl (cT, 8, .inr (.inr (.inr (.inr fT))))), (rd, .inr (4, [.ref lenses_, .int 0, .int 0, .int 0, .int (-1), .int (-1), .ref tp, .ref names_, .ref quoted_, .ref links_, .ref walker2_, .int 0, .int 0, .int 0]))])) (va_Qi (fun (r : Int32) (_ : Unit) => r = -1) (fun (_ : Unit) t => va_P (dC, dI) cls [] t.heap ∧ va_K (dC, dI) cls [(cT, .object RX6)] t ∧ va_D (va_A [(h0, .inr (11, [.ref sl, .ref walker_, .ref rd, .ref machine_, .ref trial_, .ref dk])), (sl, .inl (cT, 8, .inr (.inr (.inr (.inr fT))))), (rd, .inr (4, [.ref lenses_, .int 0, .int 0, .int 0, .int (-1), .int (-1), .ref tp, .ref names_, .ref quoted_, .ref links_, .ref walker2_, .int 0, .int 0, .int 0]))] sz) []) (va_A [(h0, .inr (11, [.ref sl, .ref walker_, .ref rd, .ref machine_, .ref trial_, .ref dk])), (sl, .inl (cT, 8, .inr (.inr (.inr (.inr fT))))), (rd, .inr (4, [.ref lenses_, .int 0, .int 0, .int 0, .int (-1), .int (-1), .ref tp, .ref names_, .ref quoted_, .ref links_, .ref walker2_, .int 0, .int 0, .int 0]))] sz)) 0 0 (va_A [(h0, .inr (11, [.ref sl, .ref walker_, .ref rd, .ref machine_, .ref trial_, .ref dk])), (sl, .inl (cT, 8, .inr (.inr (.inr (.inr fT))))), (rd, .inr (4, [.ref lenses_, .int 0, .int 0, .int 0, .int (-1), .int (-1), .ref tp, .ref names_, .ref quoted_, .ref links_, .ref walker2_, .int 0, .int 0, .int 0]))] sz) := by
  refine Met.ofW (cc := cX11_key) (maxL := 8) (ret := (some .int)) (by decide) rfl ?_
  intro p e s m args below meth c s₁ B hml hv
  obtain ⟨rfl, hsz, hP, hK, hD0⟩ := hv
  have hx := B.exec
  have hb := B.bytes
  have hr := B.returns
  have hts := atoms_spec (ws := wk_key) B.pre
  have hown : s.vm.findClass RX11 = some m.cls := findClass_of_methodNamed B.named
  have hlocks := B.notSynchronized
  subst hsz
  have hD := hD0.self (sz := s.heap.size)
  generalize hAe : va_A [(h0, .inr (11, [.ref sl, .ref walker_, .ref rd, .ref machine_, .ref trial_, .ref dk])), (sl, .inl (cT, 8, .inr (.inr (.inr (.inr fT))))), (rd, .inr (4, [.ref lenses_, .int 0, .int 0, .int 0, .int (-1), .int (-1), .ref tp, .ref names_, .ref quoted_, .ref links_, .ref walker2_, .int 0, .int 0, .int 0]))] s.heap.size = A at hD ⊢
  have hA : ∀ q : Nat, s.heap.size ≤ q → A q := fun q h => by rw [← hAe]; exact Or.inr h
  have hP : va_P (dC, dI) cls [(h0, .inr (11, [.ref sl, .ref walker_, .ref rd, .ref machine_, .ref trial_, .ref dk])), (sl, .inl (cT, 8, .inr (.inr (.inr (.inr fT))))), (rd, .inr (4, [.ref lenses_, .int 0, .int 0, .int 0, .int (-1), .int (-1), .ref tp, .ref names_, .ref quoted_, .ref links_, .ref walker2_, .int 0, .int 0, .int 0]))] s.heap := hP
  have hl := lv_entry ([.ref h0, .int v1, .int v2, .int v3, .int v4]) (n := 8) (Nat.le_of_ble_eq_true rfl)
  rw [lg_entry_eq]
  generalize (lg_sl ([.ref h0, .int v1, .int v2, .int v3, .int v4]) ++ List.replicate (8 - (lg_sl ([.ref h0, .int v1, .int v2, .int v3, .int v4])).length) Slot.unset).toArray = ls at hl ⊢
  have hl : lv_has ls 8 [(0, .ref h0), (1, .int v1), (2, .int v2), (3, .int v3), (4, .int v4)] := hl
  obtain ⟨H, hH⟩ : ∃ H : Heap, s.heap = H := ⟨_, rfl⟩
  rw [hH] at hP ⊢
  have hS : va_S A s.heap H [] := by rw [← hH]; exact va_S.rf
  refine lv_aload_n hx hb dX11_key_0 rfl (lv_at hl 0 rfl) ?_
  refine lv_iload_n hx hb dX11_key_1 rfl (lv_at hl 1 rfl) ?_
  have hPc := hP.sub (ws' := [(h0, .inr (11, [.ref sl, .ref walker_, .ref rd, .ref machine_, .ref trial_, .ref dk])), (rd, .inr (4, [.ref lenses_, .int 0, .int 0, .int 0, .int (-1), .int (-1), .ref tp, .ref names_, .ref quoted_, .ref links_, .ref walker2_, .int 0, .int 0, .int 0]))]) [0, 2] rfl
  have hDc := hD.sub (ws' := [(h0, .inr (11, [.ref sl, .ref walker_, .ref rd, .ref machine_, .ref trial_, .ref dk])), (rd, .inr (4, [.ref lenses_, .int 0, .int 0, .int 0, .int (-1), .int (-1), .ref tp, .ref names_, .ref quoted_, .ref links_, .ref walker2_, .int 0, .int 0, .int 0]))]) [0, 2] (by decide) rfl
  have hKc := hK.sub (tys' := []) [] rfl
  have hFc := va_free (wc := [(h0, .inr (11, [.ref sl, .ref walker_, .ref rd, .ref machine_, .ref trial_, .ref dk])), (rd, .inr (4, [.ref lenses_, .int 0, .int 0, .int 0, .int (-1), .int (-1), .ref tp, .ref names_, .ref quoted_, .ref links_, .ref walker2_, .int 0, .int 0, .int 0]))]) hD hS hA [0, 2] rfl
  refine va_callq (va_runV (As := [.int v1]) (rest := []) ⟨hx, hb, hml, hown, hts⟩ (k_lensAt l dC dI H.size h0 v1 sl walker_ rd machine_ trial_ dk lenses_ tp names_ quoted_ links_ walker2_) (cwV 1 hts gk_key_105 rfl rfl rfl (by decide +kernel) ⟨Nat.le_of_ble_eq_true rfl, Nat.le_of_ble_eq_true rfl⟩) ⟨fun a U g mk q => by obtain ⟨q0, q1, qP, qK, qD⟩ := q; exact ⟨q0, q1, qP, va_K.moved (u := U) (U := U.calling g mk a) (Vm.Alike.refl U.vm) qK, qD⟩, va_recv hK hP (ci := 11) (q0 := 0) rfl rfl, fun U hU hW => ⟨rfl, by rw [hU], by rw [hU]; exact hPc, va_K.moved hW.alike hKc, hDc.weaken (fun _ _ _ _ => trivial)⟩⟩ rfl rfl hl.1 rfl (lv_room (Nat.le_of_ble_eq_true rfl)) dX11_key_2 ⟨Nat.le_of_ble_eq_true rfl, Nat.le_of_ble_eq_true rfl⟩) hS (fun q _ h => hFc q h) hFc (fun r_2 u t H1 locs ht hvm hw hB hz1 hk1 hS => ?_)
  obtain ⟨hP1, hK1, hD1⟩ := hB
  rw [ht] at hP1
  try dsimp only at hw
  obtain ⟨hP, hD⟩ := va_join (wr := [(sl, .inl (cT, 8, .inr (.inr (.inr (.inr fT)))))]) (w1 := [(h0, .inr (11, [.ref sl, .ref walker_, .ref rd, .ref machine_, .ref trial_, .ref dk])), (rd, .inr (4, [.ref lenses_, .int 0, .int 0, .int 0, .int (-1), .int (-1), .ref tp, .ref names_, .ref quoted_, .ref links_, .ref walker2_, .int 0, .int 0, .int 0]))]) hP hD [0, 2] [1] rfl rfl (by decide) (by decide) hk1 hFc hP1 hD1
  clear hk1 hz1 hPc hDc hFc hP1 hD1 hK1 hKc
  generalize H1 = H at hP hS ⊢
  have hP : va_P (dC, dI) cls [(sl, .inl (cT, 8, .inr (.inr (.inr (.inr fT))))), (h0, .inr (11, [.ref sl, .ref walker_, .ref rd, .ref machine_, .ref trial_, .ref dk])), (rd, .inr (4, [.ref lenses_, .int 0, .int 0, .int 0, .int (-1), .int (-1), .ref tp, .ref names_, .ref quoted_, .ref links_, .ref walker2_, .int 0, .int 0, .int 0]))] H := hP
  have hD : va_D A [(sl, .inl (cT, 8, .inr (.inr (.inr (.inr fT))))), (h0, .inr (11, [.ref sl, .ref walker_, .ref rd, .ref machine_, .ref trial_, .ref dk])), (rd, .inr (4, [.ref lenses_, .int 0, .int 0, .int 0, .int (-1), .int (-1), .ref tp, .ref names_, .ref quoted_, .ref links_, .ref walker2_, .int 0, .int 0, .int 0]))] := hD
  obtain rfl := hw
  refine W.eq (g2 := F0 m 5 ls [.null]) rfl ?_
  have hPc := hP.sub (ws' := []) [] rfl
  have hDc := hD.sub (ws' := []) [] (by decide) rfl
  have hKc := hK.sub (tys' := []) [] rfl
  have hFc := va_free (wc := []) hD hS hA [] rfl
  refine va_callq (va_runS (As := [.null]) (rest := []) ⟨hx, hb, hml, hown, hts⟩ (k_repeatedOf l dC dI H.size ) (cwS 1 hts gk_key_166 rfl rfl rfl (by decide +kernel) ⟨Nat.le_of_ble_eq_true rfl, Nat.le_of_ble_eq_true rfl⟩) ⟨fun a U g mk q => by obtain ⟨q0, q1, qP, qK, qD⟩ := q; exact ⟨q0, q1, qP, va_K.moved (u := U) (U := U.calling g mk a) (Vm.Alike.refl U.vm) qK, qD⟩, fun U hU hW => ⟨rfl, by rw [hU], by rw [hU]; exact hPc, va_K.moved hW.alike hKc, hDc.weaken (fun _ _ _ _ => trivial)⟩⟩ rfl rfl hl.1 rfl (lv_room (Nat.le_of_ble_eq_true rfl)) dX11_key_5 ⟨Nat.le_of_ble_eq_true rfl, Nat.le_of_ble_eq_true rfl⟩) hS (fun q _ h => hFc q h) hFc (fun r_4 u t H1 locs ht hvm hw hB hz1 hk1 hS => ?_)
  obtain ⟨hP1, hK1, hD1⟩ := hB
  rw [ht] at hP1
  try dsimp only at hw
  obtain ⟨hP, hD⟩ := va_join (wr := [(sl, .inl (cT, 8, .inr (.inr (.inr (.inr fT))))), (h0, .inr (11, [.ref sl, .ref walker_, .ref rd, .ref machine_, .ref trial_, .ref dk])), (rd, .inr (4, [.ref lenses_, .int 0, .int 0, .int 0, .int (-1), .int (-1), .ref tp, .ref names_, .ref quoted_, .ref links_, .ref walker2_, .int 0, .int 0, .int 0]))]) (w1 := []) hP hD [] [0, 1, 2] rfl rfl (by decide) (by decide) hk1 hFc hP1 hD1
  clear hk1 hz1 hPc hDc hFc hP1 hD1 hK1 hKc
  generalize H1 = H at hP hS ⊢
  have hP : va_P (dC, dI) cls [(sl, .inl (cT, 8, .inr (.inr (.inr (.inr fT))))), (h0, .inr (11, [.ref sl, .ref walker_, .ref rd, .ref machine_, .ref trial_, .ref dk])), (rd, .inr (4, [.ref lenses_, .int 0, .int 0, .int 0, .int (-1), .int (-1), .ref tp, .ref names_, .ref quoted_, .ref links_, .ref walker2_, .int 0, .int 0, .int 0]))] H := hP
  have hD : va_D A [(sl, .inl (cT, 8, .inr (.inr (.inr (.inr fT))))), (h0, .inr (11, [.ref sl, .ref walker_, .ref rd, .ref machine_, .ref trial_, .ref dk])), (rd, .inr (4, [.ref lenses_, .int 0, .int 0, .int 0, .int (-1), .int (-1), .ref tp, .ref names_, .ref quoted_, .ref links_, .ref walker2_, .int 0, .int 0, .int 0]))] := hD
  obtain rfl := hw
  refine W.eq (g2 := F0 m 8 ls [.null]) rfl ?_
  refine lv_astoreN (lv' := [(5, .null), (0, .ref h0), (1, .int v1), (2, .int v2), (3, .int v3), (4, .int v4)]) hx hb dX11_key_8 hl (by decide) rfl (fun ls hl => ?_)
  refine lv_aload_n hx hb dX11_key_10 rfl (lv_at hl 1 rfl) ?_
  refine lv_iload_n hx hb dX11_key_11 rfl (lv_at hl 3 rfl) ?_
  have hPc := hP.sub (ws' := [(h0, .inr (11, [.ref sl, .ref walker_, .ref rd, .ref machine_, .ref trial_, .ref dk])), (sl, .inl (cT, 8, .inr (.inr (.inr (.inr fT)))))]) [1, 0] rfl
  have hDc := hD.sub (ws' := [(h0, .inr (11, [.ref sl, .ref walker_, .ref rd, .ref machine_, .ref trial_, .ref dk])), (sl, .inl (cT, 8, .inr (.inr (.inr (.inr fT)))))]) [1, 0] (by decide) rfl
  have hKc := hK.sub (tys' := [(cT, .object RX6)]) [0] rfl
  have hFc := va_free (wc := [(h0, .inr (11, [.ref sl, .ref walker_, .ref rd, .ref machine_, .ref trial_, .ref dk])), (sl, .inl (cT, 8, .inr (.inr (.inr (.inr fT)))))]) hD hS hA [1, 0] rfl
  refine va_callq (va_runV (As := [.int v2]) (rest := []) ⟨hx, hb, hml, hown, hts⟩ (k_slotAt l dC dI H.size h0 v2 sl walker_ rd machine_ trial_ dk cT fT hf) (cwV 1 hts gk_key_74 rfl rfl rfl (by decide +kernel) ⟨Nat.le_of_ble_eq_true rfl, Nat.le_of_ble_eq_true rfl⟩) ⟨fun a U g mk q => by obtain ⟨q0, q1, qP, qK, qD⟩ := q; exact ⟨q0, q1, qP, va_K.moved (u := U) (U := U.calling g mk a) (Vm.Alike.refl U.vm) qK, qD⟩, va_recv hK hP (ci := 11) (q0 := 1) rfl rfl, fun U hU hW => ⟨rfl, by rw [hU], by rw [hU]; exact hPc, va_K.moved hW.alike hKc, hDc.weaken (fun _ _ _ _ => trivial)⟩⟩ rfl rfl hl.1 rfl (lv_room (Nat.le_of_ble_eq_true rfl)) dX11_key_12 ⟨Nat.le_of_ble_eq_true rfl, Nat.le_of_ble_eq_true rfl⟩) hS (fun q _ h => hFc q h) hFc (fun r_6 u t H1 locs ht hvm hw hB hz1 hk1 hS => ?_)
  obtain ⟨hP1, hK1, hD1⟩ := hB
  rw [ht] at hP1
  try dsimp only at hw
  obtain ⟨hP, hD⟩ := va_join (wr := [(rd, .inr (4, [.ref lenses_, .int 0, .int 0, .int 0, .int (-1), .int (-1), .ref tp, .ref names_, .ref quoted_, .ref links_, .ref walker2_, .int 0, .int 0, .int 0]))]) (w1 := [(h0, .inr (11, [.ref sl, .ref walker_, .ref rd, .ref machine_, .ref trial_, .ref dk])), (sl, .inl (cT, 8, .inr (.inr (.inr (.inr fT)))))]) hP hD [1, 0] [2] rfl rfl (by decide) (by decide) hk1 hFc hP1 hD1
  clear hk1 hz1 hPc hDc hFc hP1 hD1 hK1 hKc
  generalize H1 = H at hP hS ⊢
  have hP : va_P (dC, dI) cls [(rd, .inr (4, [.ref lenses_, .int 0, .int 0, .int 0, .int (-1), .int (-1), .ref tp, .ref names_, .ref quoted_, .ref links_, .ref walker2_, .int 0, .int 0, .int 0])), (h0, .inr (11, [.ref sl, .ref walker_, .ref rd, .ref machine_, .ref trial_, .ref dk])), (sl, .inl (cT, 8, .inr (.inr (.inr (.inr fT)))))] H := hP
  have hD : va_D A [(rd, .inr (4, [.ref lenses_, .int 0, .int 0, .int 0, .int (-1), .int (-1), .ref tp, .ref names_, .ref quoted_, .ref links_, .ref walker2_, .int 0, .int 0, .int 0])), (h0, .inr (11, [.ref sl, .ref walker_, .ref rd, .ref machine_, .ref trial_, .ref dk])), (sl, .inl (cT, 8, .inr (.inr (.inr (.inr fT)))))] := hD
  rcases hw with ⟨f_7, rfl⟩ | ⟨f_7, rfl⟩
  · skip
    obtain ⟨t_8, et_8⟩ := hf v2 f_7
    refine W.eq (g2 := F0 m 15 ls [.ref t_8]) (by rw [et_8]; rfl) ?_
    refine lv_astore (lv' := [(6, .ref t_8), (5, .null), (0, .ref h0), (1, .int v1), (2, .int v2), (3, .int v3), (4, .int v4)]) hx hb dX11_key_15 hl (by decide) rfl (fun ls hl => ?_)
    refine lv_aload_n hx hb dX11_key_17 rfl (lv_at hl 2 rfl) ?_
    refine lv_iload hx hb dX11_key_18 (lv_at hl 6 rfl) ?_
    have hPc := hP.sub (ws' := [(h0, .inr (11, [.ref sl, .ref walker_, .ref rd, .ref machine_, .ref trial_, .ref dk])), (sl, .inl (cT, 8, .inr (.inr (.inr (.inr fT)))))]) [1, 2] rfl
    have hDc := hD.sub (ws' := [(h0, .inr (11, [.ref sl, .ref walker_, .ref rd, .ref machine_, .ref trial_, .ref dk])), (sl, .inl (cT, 8, .inr (.inr (.inr (.inr fT)))))]) [1, 2] (by decide) rfl
    have hKc := hK.sub (tys' := [(cT, .object RX6)]) [0] rfl
    have hFc := va_free (wc := [(h0, .inr (11, [.ref sl, .ref walker_, .ref rd, .ref machine_, .ref trial_, .ref dk])), (sl, .inl (cT, 8, .inr (.inr (.inr (.inr fT)))))]) hD hS hA [1, 2] rfl
    refine va_callq (va_runV (As := [.int v4]) (rest := []) ⟨hx, hb, hml, hown, hts⟩ (k_slotAt l dC dI H.size h0 v4 sl walker_ rd machine_ trial_ dk cT fT hf) (cwV 1 hts gk_key_74 rfl rfl rfl (by decide +kernel) ⟨Nat.le_of_ble_eq_true rfl, Nat.le_of_ble_eq_true rfl⟩) ⟨fun a U g mk q => by obtain ⟨q0, q1, qP, qK, qD⟩ := q; exact ⟨q0, q1, qP, va_K.moved (u := U) (U := U.calling g mk a) (Vm.Alike.refl U.vm) qK, qD⟩, va_recv hK hP (ci := 11) (q0 := 1) rfl rfl, fun U hU hW => ⟨rfl, by rw [hU], by rw [hU]; exact hPc, va_K.moved hW.alike hKc, hDc.weaken (fun _ _ _ _ => trivial)⟩⟩ rfl rfl hl.1 rfl (lv_room (Nat.le_of_ble_eq_true rfl)) dX11_key_20 ⟨Nat.le_of_ble_eq_true rfl, Nat.le_of_ble_eq_true rfl⟩) hS (fun q _ h => hFc q h) hFc (fun r_10 u t H1 locs ht hvm hw hB hz1 hk1 hS => ?_)
    obtain ⟨hP1, hK1, hD1⟩ := hB
    rw [ht] at hP1
    try dsimp only at hw
    obtain ⟨hP, hD⟩ := va_join (wr := [(rd, .inr (4, [.ref lenses_, .int 0, .int 0, .int 0, .int (-1), .int (-1), .ref tp, .ref names_, .ref quoted_, .ref links_, .ref walker2_, .int 0, .int 0, .int 0]))]) (w1 := [(h0, .inr (11, [.ref sl, .ref walker_, .ref rd, .ref machine_, .ref trial_, .ref dk])), (sl, .inl (cT, 8, .inr (.inr (.inr (.inr fT)))))]) hP hD [1, 2] [0] rfl rfl (by decide) (by decide) hk1 hFc hP1 hD1
    clear hk1 hz1 hPc hDc hFc hP1 hD1 hK1 hKc
    generalize H1 = H at hP hS ⊢
    have hP : va_P (dC, dI) cls [(rd, .inr (4, [.ref lenses_, .int 0, .int 0, .int 0, .int (-1), .int (-1), .ref tp, .ref names_, .ref quoted_, .ref links_, .ref walker2_, .int 0, .int 0, .int 0])), (h0, .inr (11, [.ref sl, .ref walker_, .ref rd, .ref machine_, .ref trial_, .ref dk])), (sl, .inl (cT, 8, .inr (.inr (.inr (.inr fT)))))] H := hP
    have hD : va_D A [(rd, .inr (4, [.ref lenses_, .int 0, .int 0, .int 0, .int (-1), .int (-1), .ref tp, .ref names_, .ref quoted_, .ref links_, .ref walker2_, .int 0, .int 0, .int 0])), (h0, .inr (11, [.ref sl, .ref walker_, .ref rd, .ref machine_, .ref trial_, .ref dk])), (sl, .inl (cT, 8, .inr (.inr (.inr (.inr fT)))))] := hD
    rcases hw with ⟨f_11, rfl⟩ | ⟨f_11, rfl⟩
    · skip
      obtain ⟨t_12, et_12⟩ := hf v4 f_11
      refine W.eq (g2 := F0 m 23 ls [.ref t_12]) (by rw [et_12]; rfl) ?_
      refine lv_astore (lv' := [(7, .ref t_12), (6, .ref t_8), (5, .null), (0, .ref h0), (1, .int v1), (2, .int v2), (3, .int v3), (4, .int v4)]) hx hb dX11_key_23 hl (by decide) rfl (fun ls hl => ?_)
      refine lv_aloadN hx hb dX11_key_25 (lv_at hl 2 rfl) ?_
      refine lv_ifnullN (tgt := 40) hx hb dX11_key_27 (by decide) ?_
      refine lv_iconst (v := (-1)) hx hb dX11_key_40 (by decide) ?_
      have hK9 := hK.sub (tys' := [(cT, .object RX6)]) [0] rfl
      have hP9 := hP.sub (ws' := []) [] rfl
      have hD9 := hD.sub (ws' := []) [] (by decide) rfl
      exact W.iret (v := (-1)) hx hb hr (fun t ht hW => ⟨⟨(-1), (), rfl, rfl, by rw [ht]; exact hP9, va_K.moved hW.alike hK9, hD9⟩, hS.F ht⟩) hS.2.2 dX11_key_41
    · skip
      refine W.eq (g2 := F0 m 23 ls [.null]) rfl ?_
      refine lv_astoreN (lv' := [(7, .null), (6, .ref t_8), (5, .null), (0, .ref h0), (1, .int v1), (2, .int v2), (3, .int v3), (4, .int v4)]) hx hb dX11_key_23 hl (by decide) rfl (fun ls hl => ?_)
      refine lv_aloadN hx hb dX11_key_25 (lv_at hl 2 rfl) ?_
      refine lv_ifnullN (tgt := 40) hx hb dX11_key_27 (by decide) ?_
      refine lv_iconst (v := (-1)) hx hb dX11_key_40 (by decide) ?_
      have hK9 := hK.sub (tys' := [(cT, .object RX6)]) [0] rfl
      have hP9 := hP.sub (ws' := []) [] rfl
      have hD9 := hD.sub (ws' := []) [] (by decide) rfl
      exact W.iret (v := (-1)) hx hb hr (fun t ht hW => ⟨⟨(-1), (), rfl, rfl, by rw [ht]; exact hP9, va_K.moved hW.alike hK9, hD9⟩, hS.F ht⟩) hS.2.2 dX11_key_41
  · skip
    refine W.eq (g2 := F0 m 15 ls [.null]) rfl ?_
    refine lv_astoreN (lv' := [(6, .null), (5, .null), (0, .ref h0), (1, .int v1), (2, .int v2), (3, .int v3), (4, .int v4)]) hx hb dX11_key_15 hl (by decide) rfl (fun ls hl => ?_)
    refine lv_aload_n hx hb dX11_key_17 rfl (lv_at hl 2 rfl) ?_
    refine lv_iload hx hb dX11_key_18 (lv_at hl 6 rfl) ?_
    have hPc := hP.sub (ws' := [(h0, .inr (11, [.ref sl, .ref walker_, .ref rd, .ref machine_, .ref trial_, .ref dk])), (sl, .inl (cT, 8, .inr (.inr (.inr (.inr fT)))))]) [1, 2] rfl
    have hDc := hD.sub (ws' := [(h0, .inr (11, [.ref sl, .ref walker_, .ref rd, .ref machine_, .ref trial_, .ref dk])), (sl, .inl (cT, 8, .inr (.inr (.inr (.inr fT)))))]) [1, 2] (by decide) rfl
    have hKc := hK.sub (tys' := [(cT, .object RX6)]) [0] rfl
    have hFc := va_free (wc := [(h0, .inr (11, [.ref sl, .ref walker_, .ref rd, .ref machine_, .ref trial_, .ref dk])), (sl, .inl (cT, 8, .inr (.inr (.inr (.inr fT)))))]) hD hS hA [1, 2] rfl
    refine va_callq (va_runV (As := [.int v4]) (rest := []) ⟨hx, hb, hml, hown, hts⟩ (k_slotAt l dC dI H.size h0 v4 sl walker_ rd machine_ trial_ dk cT fT hf) (cwV 1 hts gk_key_74 rfl rfl rfl (by decide +kernel) ⟨Nat.le_of_ble_eq_true rfl, Nat.le_of_ble_eq_true rfl⟩) ⟨fun a U g mk q => by obtain ⟨q0, q1, qP, qK, qD⟩ := q; exact ⟨q0, q1, qP, va_K.moved (u := U) (U := U.calling g mk a) (Vm.Alike.refl U.vm) qK, qD⟩, va_recv hK hP (ci := 11) (q0 := 1) rfl rfl, fun U hU hW => ⟨rfl, by rw [hU], by rw [hU]; exact hPc, va_K.moved hW.alike hKc, hDc.weaken (fun _ _ _ _ => trivial)⟩⟩ rfl rfl hl.1 rfl (lv_room (Nat.le_of_ble_eq_true rfl)) dX11_key_20 ⟨Nat.le_of_ble_eq_true rfl, Nat.le_of_ble_eq_true rfl⟩) hS (fun q _ h => hFc q h) hFc (fun r_14 u t H1 locs ht hvm hw hB hz1 hk1 hS => ?_)
    obtain ⟨hP1, hK1, hD1⟩ := hB
    rw [ht] at hP1
    try dsimp only at hw
    obtain ⟨hP, hD⟩ := va_join (wr := [(rd, .inr (4, [.ref lenses_, .int 0, .int 0, .int 0, .int (-1), .int (-1), .ref tp, .ref names_, .ref quoted_, .ref links_, .ref walker2_, .int 0, .int 0, .int 0]))]) (w1 := [(h0, .inr (11, [.ref sl, .ref walker_, .ref rd, .ref machine_, .ref trial_, .ref dk])), (sl, .inl (cT, 8, .inr (.inr (.inr (.inr fT)))))]) hP hD [1, 2] [0] rfl rfl (by decide) (by decide) hk1 hFc hP1 hD1
    clear hk1 hz1 hPc hDc hFc hP1 hD1 hK1 hKc
    generalize H1 = H at hP hS ⊢
    have hP : va_P (dC, dI) cls [(rd, .inr (4, [.ref lenses_, .int 0, .int 0, .int 0, .int (-1), .int (-1), .ref tp, .ref names_, .ref quoted_, .ref links_, .ref walker2_, .int 0, .int 0, .int 0])), (h0, .inr (11, [.ref sl, .ref walker_, .ref rd, .ref machine_, .ref trial_, .ref dk])), (sl, .inl (cT, 8, .inr (.inr (.inr (.inr fT)))))] H := hP
    have hD : va_D A [(rd, .inr (4, [.ref lenses_, .int 0, .int 0, .int 0, .int (-1), .int (-1), .ref tp, .ref names_, .ref quoted_, .ref links_, .ref walker2_, .int 0, .int 0, .int 0])), (h0, .inr (11, [.ref sl, .ref walker_, .ref rd, .ref machine_, .ref trial_, .ref dk])), (sl, .inl (cT, 8, .inr (.inr (.inr (.inr fT)))))] := hD
    rcases hw with ⟨f_15, rfl⟩ | ⟨f_15, rfl⟩
    · skip
      obtain ⟨t_16, et_16⟩ := hf v4 f_15
      refine W.eq (g2 := F0 m 23 ls [.ref t_16]) (by rw [et_16]; rfl) ?_
      refine lv_astore (lv' := [(7, .ref t_16), (6, .null), (5, .null), (0, .ref h0), (1, .int v1), (2, .int v2), (3, .int v3), (4, .int v4)]) hx hb dX11_key_23 hl (by decide) rfl (fun ls hl => ?_)
      refine lv_aloadN hx hb dX11_key_25 (lv_at hl 2 rfl) ?_
      refine lv_ifnullN (tgt := 40) hx hb dX11_key_27 (by decide) ?_
      refine lv_iconst (v := (-1)) hx hb dX11_key_40 (by decide) ?_
      have hK9 := hK.sub (tys' := [(cT, .object RX6)]) [0] rfl
      have hP9 := hP.sub (ws' := []) [] rfl
      have hD9 := hD.sub (ws' := []) [] (by decide) rfl
      exact W.iret (v := (-1)) hx hb hr (fun t ht hW => ⟨⟨(-1), (), rfl, rfl, by rw [ht]; exact hP9, va_K.moved hW.alike hK9, hD9⟩, hS.F ht⟩) hS.2.2 dX11_key_41
    · skip
      refine W.eq (g2 := F0 m 23 ls [.null]) rfl ?_
      refine lv_astoreN (lv' := [(7, .null), (6, .null), (5, .null), (0, .ref h0), (1, .int v1), (2, .int v2), (3, .int v3), (4, .int v4)]) hx hb dX11_key_23 hl (by decide) rfl (fun ls hl => ?_)
      refine lv_aloadN hx hb dX11_key_25 (lv_at hl 2 rfl) ?_
      refine lv_ifnullN (tgt := 40) hx hb dX11_key_27 (by decide) ?_
      refine lv_iconst (v := (-1)) hx hb dX11_key_40 (by decide) ?_
      have hK9 := hK.sub (tys' := [(cT, .object RX6)]) [0] rfl
      have hP9 := hP.sub (ws' := []) [] rfl
      have hD9 := hD.sub (ws' := []) [] (by decide) rfl
      exact W.iret (v := (-1)) hx hb hr (fun t ht hW => ⟨⟨(-1), (), rfl, rfl, by rw [ht]; exact hP9, va_K.moved hW.alike hK9, hD9⟩, hS.F ht⟩) hS.2.2 dX11_key_41
def wk_laws : List Cond := .code yX11_laws cX11_laws 5 (some .int) :: ([.methodLink RX11 105 yX11_lensAt, .instanceMethod yX11_lensAt, .selects RX11 yX11_lensAt yX11_lensAt, .initialized RX11, .code yX11_lensAt cX11_lensAt 2 (some (.object "PutBack$Lens")), .fieldLink RX11 27 "PutBack" "reader" "LPutBack$Reader;", .fieldLink RX11 259 "PutBack$Reader" "told" "I"] ++ wsX40 ++ wsX110)
theorem ik_laws_RX4 : ∀ w ∈ u_ws RX4 TX4 14, w ∈ wk_laws := fun w h => List.mem_cons_of_mem _ (List.mem_append_left _ (List.mem_append_right _ h))
theorem ik_laws_RX11 : ∀ w ∈ u_ws RX11 TX11 6, w ∈ wk_laws := fun w h => List.mem_cons_of_mem _ (List.mem_append_right _ h)
theorem gk_laws_105g : GoodIn wk_laws wk_lensAt := goodIn_r _ [5, 6, 7, 8, 9, 10, 11, 12, 13, 14, 15, 16, 17, 18, 19, 20, 21, 22, 23, 24, 25, 26, 27] (by decide +kernel) (by decide +kernel)
theorem gk_laws_105 : GoodIn wk_laws (wsV RX11 105 RX11 yX11_lensAt wk_lensAt) := goodIn_app (goodIn_of _ (by decide +kernel)) gk_laws_105g
set_option maxHeartbeats 4000000 in
set_option maxRecDepth 100000 in
theorem k_laws (l : Launch) (dC : Nat → ClassId) (dI : Nat → Nat → Nat) (sz : Nat) (h0 : Nat) (v1 : Int32) (v2 : Int32) (v3 : Int32) (sl : Nat) (walker_ : Nat) (rd : Nat) (machine_ : Nat) (trial_ : Nat) (dk : Nat) (lenses_ : Nat) (tp : Nat) (names_ : Nat) (quoted_ : Nat) (links_ : Nat) (walker2_ : Nat) : Met l yX11_laws wk_laws ({ frames := 1, cells := 0, slots := 0, locals := 21 } : Room) (va_Pc [.ref h0, .int v1, .int v2, .int v3] (fun U => U.heap.size = sz ∧ va_P (dC, dI) cls [(h0, .inr (11, [.ref sl, .ref walker_, .ref rd, .ref machine_, .ref trial_, .ref dk])), (rd, .inr (4, [.ref lenses_, .int 0, .int 0, .int 0, .int (-1), .int (-1), .ref tp, .ref names_, .ref quoted_, .ref links_, .ref walker2_, .int 0, .int 0, .int 0]))] U.heap ∧ va_K (dC, dI) cls [] U ∧ va_D (fun _ => True) [(h0, .inr (11, [.ref sl, .ref walker_, .ref rd, .ref machine_, .ref trial_, .ref dk])), (rd, .inr (4, [.ref lenses_, .int 0, .int 0, .int 0, .int (-1), .int (-1), .ref tp, .ref names_, .ref quoted_, .ref links_, .ref walker2_, .int 0, .int 0, .int 0]))])) (va_Qi (fun (r : Int32) (_ : Unit) => r = -1) (fun (_ : Unit) t => va_P (dC, dI) cls [] t.heap ∧ va_K (dC, dI) cls [] t ∧ va_D (va_A [(h0, .inr (11, [.ref sl, .ref walker_, .ref rd, .ref machine_, .ref trial_, .ref dk])), (rd, .inr (4, [.ref lenses_, .int 0, .int 0, .int 0, .int (-1), .int (-1), .ref tp, .ref names_, .ref quoted_, .ref links_, .ref walker2_, .int 0, .int 0, .int 0]))] sz) []) (va_A [(h0, .inr (11, [.ref sl, .ref walker_, .ref rd, .ref machine_, .ref trial_, .ref dk])), (rd, .inr (4, [.ref lenses_, .int 0, .int 0, .int 0, .int (-1), .int (-1), .ref tp, .ref names_, .ref quoted_, .ref links_, .ref walker2_, .int 0, .int 0, .int 0]))] sz)) 0 0 (va_A [(h0, .inr (11, [.ref sl, .ref walker_, .ref rd, .ref machine_, .ref trial_, .ref dk])), (rd, .inr (4, [.ref lenses_, .int 0, .int 0, .int 0, .int (-1), .int (-1), .ref tp, .ref names_, .ref quoted_, .ref links_, .ref walker2_, .int 0, .int 0, .int 0]))] sz) := by
  refine Met.ofW (cc := cX11_laws) (maxL := 5) (ret := (some .int)) (by decide) rfl ?_
  intro p e s m args below meth c s₁ B hml hv
  obtain ⟨rfl, hsz, hP, hK, hD0⟩ := hv
  have hx := B.exec
  have hb := B.bytes
  have hr := B.returns
  have hts := atoms_spec (ws := wk_laws) B.pre
  have hown : s.vm.findClass RX11 = some m.cls := findClass_of_methodNamed B.named
  have hlocks := B.notSynchronized
  subst hsz
  have hD := hD0.self (sz := s.heap.size)
  generalize hAe : va_A [(h0, .inr (11, [.ref sl, .ref walker_, .ref rd, .ref machine_, .ref trial_, .ref dk])), (rd, .inr (4, [.ref lenses_, .int 0, .int 0, .int 0, .int (-1), .int (-1), .ref tp, .ref names_, .ref quoted_, .ref links_, .ref walker2_, .int 0, .int 0, .int 0]))] s.heap.size = A at hD ⊢
  have hA : ∀ q : Nat, s.heap.size ≤ q → A q := fun q h => by rw [← hAe]; exact Or.inr h
  have hP : va_P (dC, dI) cls [(h0, .inr (11, [.ref sl, .ref walker_, .ref rd, .ref machine_, .ref trial_, .ref dk])), (rd, .inr (4, [.ref lenses_, .int 0, .int 0, .int 0, .int (-1), .int (-1), .ref tp, .ref names_, .ref quoted_, .ref links_, .ref walker2_, .int 0, .int 0, .int 0]))] s.heap := hP
  have hl := lv_entry ([.ref h0, .int v1, .int v2, .int v3]) (n := 5) (Nat.le_of_ble_eq_true rfl)
  rw [lg_entry_eq]
  generalize (lg_sl ([.ref h0, .int v1, .int v2, .int v3]) ++ List.replicate (5 - (lg_sl ([.ref h0, .int v1, .int v2, .int v3])).length) Slot.unset).toArray = ls at hl ⊢
  have hl : lv_has ls 5 [(0, .ref h0), (1, .int v1), (2, .int v2), (3, .int v3)] := hl
  obtain ⟨H, hH⟩ : ∃ H : Heap, s.heap = H := ⟨_, rfl⟩
  rw [hH] at hP ⊢
  have hS : va_S A s.heap H [] := by rw [← hH]; exact va_S.rf
  refine lv_aload_n hx hb dX11_laws_0 rfl (lv_at hl 0 rfl) ?_
  refine lv_iload_n hx hb dX11_laws_1 rfl (lv_at hl 1 rfl) ?_
  have hPc := hP.sub (ws' := [(h0, .inr (11, [.ref sl, .ref walker_, .ref rd, .ref machine_, .ref trial_, .ref dk])), (rd, .inr (4, [.ref lenses_, .int 0, .int 0, .int 0, .int (-1), .int (-1), .ref tp, .ref names_, .ref quoted_, .ref links_, .ref walker2_, .int 0, .int 0, .int 0]))]) [0, 1] rfl
  have hDc := hD.sub (ws' := [(h0, .inr (11, [.ref sl, .ref walker_, .ref rd, .ref machine_, .ref trial_, .ref dk])), (rd, .inr (4, [.ref lenses_, .int 0, .int 0, .int 0, .int (-1), .int (-1), .ref tp, .ref names_, .ref quoted_, .ref links_, .ref walker2_, .int 0, .int 0, .int 0]))]) [0, 1] (by decide) rfl
  have hKc := hK.sub (tys' := []) [] rfl
  have hFc := va_free (wc := [(h0, .inr (11, [.ref sl, .ref walker_, .ref rd, .ref machine_, .ref trial_, .ref dk])), (rd, .inr (4, [.ref lenses_, .int 0, .int 0, .int 0, .int (-1), .int (-1), .ref tp, .ref names_, .ref quoted_, .ref links_, .ref walker2_, .int 0, .int 0, .int 0]))]) hD hS hA [0, 1] rfl
  refine va_callq (va_runV (As := [.int v1]) (rest := []) ⟨hx, hb, hml, hown, hts⟩ (k_lensAt l dC dI H.size h0 v1 sl walker_ rd machine_ trial_ dk lenses_ tp names_ quoted_ links_ walker2_) (cwV 1 hts gk_laws_105 rfl rfl rfl (by decide +kernel) ⟨Nat.le_of_ble_eq_true rfl, Nat.le_of_ble_eq_true rfl⟩) ⟨fun a U g mk q => by obtain ⟨q0, q1, qP, qK, qD⟩ := q; exact ⟨q0, q1, qP, va_K.moved (u := U) (U := U.calling g mk a) (Vm.Alike.refl U.vm) qK, qD⟩, va_recv hK hP (ci := 11) (q0 := 0) rfl rfl, fun U hU hW => ⟨rfl, by rw [hU], by rw [hU]; exact hPc, va_K.moved hW.alike hKc, hDc.weaken (fun _ _ _ _ => trivial)⟩⟩ rfl rfl hl.1 rfl (lv_room (Nat.le_of_ble_eq_true rfl)) dX11_laws_2 ⟨Nat.le_of_ble_eq_true rfl, Nat.le_of_ble_eq_true rfl⟩) hS (fun q _ h => hFc q h) hFc (fun r_2 u t H1 locs ht hvm hw hB hz1 hk1 hS => ?_)
  obtain ⟨hP1, hK1, hD1⟩ := hB
  rw [ht] at hP1
  try dsimp only at hw
  obtain ⟨hP, hD⟩ := va_join (wr := []) (w1 := [(h0, .inr (11, [.ref sl, .ref walker_, .ref rd, .ref machine_, .ref trial_, .ref dk])), (rd, .inr (4, [.ref lenses_, .int 0, .int 0, .int 0, .int (-1), .int (-1), .ref tp, .ref names_, .ref quoted_, .ref links_, .ref walker2_, .int 0, .int 0, .int 0]))]) hP hD [0, 1] [] rfl rfl (by decide) (by decide) hk1 hFc hP1 hD1
  clear hk1 hz1 hPc hDc hFc hP1 hD1 hK1 hKc
  generalize H1 = H at hP hS ⊢
  have hP : va_P (dC, dI) cls [(h0, .inr (11, [.ref sl, .ref walker_, .ref rd, .ref machine_, .ref trial_, .ref dk])), (rd, .inr (4, [.ref lenses_, .int 0, .int 0, .int 0, .int (-1), .int (-1), .ref tp, .ref names_, .ref quoted_, .ref links_, .ref walker2_, .int 0, .int 0, .int 0]))] H := hP
  have hD : va_D A [(h0, .inr (11, [.ref sl, .ref walker_, .ref rd, .ref machine_, .ref trial_, .ref dk])), (rd, .inr (4, [.ref lenses_, .int 0, .int 0, .int 0, .int (-1), .int (-1), .ref tp, .ref names_, .ref quoted_, .ref links_, .ref walker2_, .int 0, .int 0, .int 0]))] := hD
  obtain rfl := hw
  refine W.eq (g2 := F0 m 5 ls [.null]) rfl ?_
  refine lv_astoreN (lv' := [(4, .null), (0, .ref h0), (1, .int v1), (2, .int v2), (3, .int v3)]) hx hb dX11_laws_5 hl (by decide) rfl (fun ls hl => ?_)
  refine lv_aloadN hx hb dX11_laws_7 (lv_at hl 0 rfl) ?_
  refine lv_ifnullN (tgt := 31) hx hb dX11_laws_9 (by decide) ?_
  refine lv_iconst (v := (-1)) hx hb dX11_laws_31 (by decide) ?_
  have hK9 := hK.sub (tys' := []) [] rfl
  have hP9 := hP.sub (ws' := []) [] rfl
  have hD9 := hD.sub (ws' := []) [] (by decide) rfl
  exact W.iret (v := (-1)) hx hb hr (fun t ht hW => ⟨⟨(-1), (), rfl, rfl, by rw [ht]; exact hP9, va_K.moved hW.alike hK9, hD9⟩, hS.F ht⟩) hS.2.2 dX11_laws_32
def wk_open : List Cond := .code yX11_open cX11_open 5 (some .int) :: ([.methodLink RX11 105 yX11_lensAt, .instanceMethod yX11_lensAt, .selects RX11 yX11_lensAt yX11_lensAt, .initialized RX11, .code yX11_lensAt cX11_lensAt 2 (some (.object "PutBack$Lens")), .fieldLink RX11 27 "PutBack" "reader" "LPutBack$Reader;", .fieldLink RX11 259 "PutBack$Reader" "told" "I", .methodLink RX11 74 yX11_slotAt, .instanceMethod yX11_slotAt, .selects RX11 yX11_slotAt yX11_slotAt, .code yX11_slotAt cX11_slotAt 2 (some (.object "PutBack$Text")), .fieldLink RX11 11 "PutBack" "slots" "[LPutBack$Text;"] ++ wsX40 ++ wsX110)
theorem ik_open_RX4 : ∀ w ∈ u_ws RX4 TX4 14, w ∈ wk_open := fun w h => List.mem_cons_of_mem _ (List.mem_append_left _ (List.mem_append_right _ h))
theorem ik_open_RX11 : ∀ w ∈ u_ws RX11 TX11 6, w ∈ wk_open := fun w h => List.mem_cons_of_mem _ (List.mem_append_right _ h)
theorem gk_open_105g : GoodIn wk_open wk_lensAt := goodIn_r _ [5, 6, 7, 13, 14, 15, 16, 17, 18, 19, 20, 21, 22, 23, 24, 25, 26, 27, 28, 29, 30, 31, 32] (by decide +kernel) (by decide +kernel)
theorem gk_open_105 : GoodIn wk_open (wsV RX11 105 RX11 yX11_lensAt wk_lensAt) := goodIn_app (goodIn_of _ (by decide +kernel)) gk_open_105g
theorem gk_open_74g : GoodIn wk_open wk_slotAt := goodIn_r _ [11, 12, 27, 28, 29, 30, 31, 32] (by decide +kernel) (by decide +kernel)
theorem gk_open_74 : GoodIn wk_open (wsV RX11 74 RX11 yX11_slotAt wk_slotAt) := goodIn_app (goodIn_of _ (by decide +kernel)) gk_open_74g
set_option maxHeartbeats 4000000 in
set_option maxRecDepth 100000 in
theorem k_open (l : Launch) (dC : Nat → ClassId) (dI : Nat → Nat → Nat) (sz : Nat) (h0 : Nat) (v1 : Int32) (v2 : Int32) (sl : Nat) (walker_ : Nat) (rd : Nat) (machine_ : Nat) (trial_ : Nat) (dk : Nat) (cT : ClassId) (fT : Nat → Option Nat) (lenses_ : Nat) (tp : Nat) (names_ : Nat) (quoted_ : Nat) (links_ : Nat) (walker2_ : Nat) (hf : ∀ i : Int32, inS i → ∃ t, fT i.toNatClampNeg = some t) : Met l yX11_open wk_open ({ frames := 1, cells := 0, slots := 0, locals := 21 } : Room) (va_Pc [.ref h0, .int v1, .int v2] (fun U => U.heap.size = sz ∧ va_P (dC, dI) cls [(h0, .inr (11, [.ref sl, .ref walker_, .ref rd, .ref machine_, .ref trial_, .ref dk])), (sl, .inl (cT, 8, .inr (.inr (.inr (.inr fT))))), (rd, .inr (4, [.ref lenses_, .int 0, .int 0, .int 0, .int (-1), .int (-1), .ref tp, .ref names_, .ref quoted_, .ref links_, .ref walker2_, .int 0, .int 0, .int 0]))] U.heap ∧ va_K (dC, dI) cls [(cT, .object RX6)] U ∧ va_D (fun _ => True) [(h0, .inr (11, [.ref sl, .ref walker_, .ref rd, .ref machine_, .ref trial_, .ref dk])), (sl, .inl (cT, 8, .inr (.inr (.inr (.inr fT))))), (rd, .inr (4, [.ref lenses_, .int 0, .int 0, .int 0, .int (-1), .int (-1), .ref tp, .ref names_, .ref quoted_, .ref links_, .ref walker2_, .int 0, .int 0, .int 0]))])) (va_Qi (fun (r : Int32) (_ : Unit) => r = -1) (fun (_ : Unit) t => va_P (dC, dI) cls [] t.heap ∧ va_K (dC, dI) cls [(cT, .object RX6)] t ∧ va_D (va_A [(h0, .inr (11, [.ref sl, .ref walker_, .ref rd, .ref machine_, .ref trial_, .ref dk])), (sl, .inl (cT, 8, .inr (.inr (.inr (.inr fT))))), (rd, .inr (4, [.ref lenses_, .int 0, .int 0, .int 0, .int (-1), .int (-1), .ref tp, .ref names_, .ref quoted_, .ref links_, .ref walker2_, .int 0, .int 0, .int 0]))] sz) []) (va_A [(h0, .inr (11, [.ref sl, .ref walker_, .ref rd, .ref machine_, .ref trial_, .ref dk])), (sl, .inl (cT, 8, .inr (.inr (.inr (.inr fT))))), (rd, .inr (4, [.ref lenses_, .int 0, .int 0, .int 0, .int (-1), .int (-1), .ref tp, .ref names_, .ref quoted_, .ref links_, .ref walker2_, .int 0, .int 0, .int 0]))] sz)) 0 0 (va_A [(h0, .inr (11, [.ref sl, .ref walker_, .ref rd, .ref machine_, .ref trial_, .ref dk])), (sl, .inl (cT, 8, .inr (.inr (.inr (.inr fT))))), (rd, .inr (4, [.ref lenses_, .int 0, .int 0, .int 0, .int (-1), .int (-1), .ref tp, .ref names_, .ref quoted_, .ref links_, .ref walker2_, .int 0, .int 0, .int 0]))] sz) := by
  refine Met.ofW (cc := cX11_open) (maxL := 5) (ret := (some .int)) (by decide) rfl ?_
  intro p e s m args below meth c s₁ B hml hv
  obtain ⟨rfl, hsz, hP, hK, hD0⟩ := hv
  have hx := B.exec
  have hb := B.bytes
  have hr := B.returns
  have hts := atoms_spec (ws := wk_open) B.pre
  have hown : s.vm.findClass RX11 = some m.cls := findClass_of_methodNamed B.named
  have hlocks := B.notSynchronized
  subst hsz
  have hD := hD0.self (sz := s.heap.size)
  generalize hAe : va_A [(h0, .inr (11, [.ref sl, .ref walker_, .ref rd, .ref machine_, .ref trial_, .ref dk])), (sl, .inl (cT, 8, .inr (.inr (.inr (.inr fT))))), (rd, .inr (4, [.ref lenses_, .int 0, .int 0, .int 0, .int (-1), .int (-1), .ref tp, .ref names_, .ref quoted_, .ref links_, .ref walker2_, .int 0, .int 0, .int 0]))] s.heap.size = A at hD ⊢
  have hA : ∀ q : Nat, s.heap.size ≤ q → A q := fun q h => by rw [← hAe]; exact Or.inr h
  have hP : va_P (dC, dI) cls [(h0, .inr (11, [.ref sl, .ref walker_, .ref rd, .ref machine_, .ref trial_, .ref dk])), (sl, .inl (cT, 8, .inr (.inr (.inr (.inr fT))))), (rd, .inr (4, [.ref lenses_, .int 0, .int 0, .int 0, .int (-1), .int (-1), .ref tp, .ref names_, .ref quoted_, .ref links_, .ref walker2_, .int 0, .int 0, .int 0]))] s.heap := hP
  have hl := lv_entry ([.ref h0, .int v1, .int v2]) (n := 5) (Nat.le_of_ble_eq_true rfl)
  rw [lg_entry_eq]
  generalize (lg_sl ([.ref h0, .int v1, .int v2]) ++ List.replicate (5 - (lg_sl ([.ref h0, .int v1, .int v2])).length) Slot.unset).toArray = ls at hl ⊢
  have hl : lv_has ls 5 [(0, .ref h0), (1, .int v1), (2, .int v2)] := hl
  obtain ⟨H, hH⟩ : ∃ H : Heap, s.heap = H := ⟨_, rfl⟩
  rw [hH] at hP ⊢
  have hS : va_S A s.heap H [] := by rw [← hH]; exact va_S.rf
  refine lv_aload_n hx hb dX11_open_0 rfl (lv_at hl 0 rfl) ?_
  refine lv_iload_n hx hb dX11_open_1 rfl (lv_at hl 1 rfl) ?_
  have hPc := hP.sub (ws' := [(h0, .inr (11, [.ref sl, .ref walker_, .ref rd, .ref machine_, .ref trial_, .ref dk])), (rd, .inr (4, [.ref lenses_, .int 0, .int 0, .int 0, .int (-1), .int (-1), .ref tp, .ref names_, .ref quoted_, .ref links_, .ref walker2_, .int 0, .int 0, .int 0]))]) [0, 2] rfl
  have hDc := hD.sub (ws' := [(h0, .inr (11, [.ref sl, .ref walker_, .ref rd, .ref machine_, .ref trial_, .ref dk])), (rd, .inr (4, [.ref lenses_, .int 0, .int 0, .int 0, .int (-1), .int (-1), .ref tp, .ref names_, .ref quoted_, .ref links_, .ref walker2_, .int 0, .int 0, .int 0]))]) [0, 2] (by decide) rfl
  have hKc := hK.sub (tys' := []) [] rfl
  have hFc := va_free (wc := [(h0, .inr (11, [.ref sl, .ref walker_, .ref rd, .ref machine_, .ref trial_, .ref dk])), (rd, .inr (4, [.ref lenses_, .int 0, .int 0, .int 0, .int (-1), .int (-1), .ref tp, .ref names_, .ref quoted_, .ref links_, .ref walker2_, .int 0, .int 0, .int 0]))]) hD hS hA [0, 2] rfl
  refine va_callq (va_runV (As := [.int v1]) (rest := []) ⟨hx, hb, hml, hown, hts⟩ (k_lensAt l dC dI H.size h0 v1 sl walker_ rd machine_ trial_ dk lenses_ tp names_ quoted_ links_ walker2_) (cwV 1 hts gk_open_105 rfl rfl rfl (by decide +kernel) ⟨Nat.le_of_ble_eq_true rfl, Nat.le_of_ble_eq_true rfl⟩) ⟨fun a U g mk q => by obtain ⟨q0, q1, qP, qK, qD⟩ := q; exact ⟨q0, q1, qP, va_K.moved (u := U) (U := U.calling g mk a) (Vm.Alike.refl U.vm) qK, qD⟩, va_recv hK hP (ci := 11) (q0 := 0) rfl rfl, fun U hU hW => ⟨rfl, by rw [hU], by rw [hU]; exact hPc, va_K.moved hW.alike hKc, hDc.weaken (fun _ _ _ _ => trivial)⟩⟩ rfl rfl hl.1 rfl (lv_room (Nat.le_of_ble_eq_true rfl)) dX11_open_2 ⟨Nat.le_of_ble_eq_true rfl, Nat.le_of_ble_eq_true rfl⟩) hS (fun q _ h => hFc q h) hFc (fun r_2 u t H1 locs ht hvm hw hB hz1 hk1 hS => ?_)
  obtain ⟨hP1, hK1, hD1⟩ := hB
  rw [ht] at hP1
  try dsimp only at hw
  obtain ⟨hP, hD⟩ := va_join (wr := [(sl, .inl (cT, 8, .inr (.inr (.inr (.inr fT)))))]) (w1 := [(h0, .inr (11, [.ref sl, .ref walker_, .ref rd, .ref machine_, .ref trial_, .ref dk])), (rd, .inr (4, [.ref lenses_, .int 0, .int 0, .int 0, .int (-1), .int (-1), .ref tp, .ref names_, .ref quoted_, .ref links_, .ref walker2_, .int 0, .int 0, .int 0]))]) hP hD [0, 2] [1] rfl rfl (by decide) (by decide) hk1 hFc hP1 hD1
  clear hk1 hz1 hPc hDc hFc hP1 hD1 hK1 hKc
  generalize H1 = H at hP hS ⊢
  have hP : va_P (dC, dI) cls [(sl, .inl (cT, 8, .inr (.inr (.inr (.inr fT))))), (h0, .inr (11, [.ref sl, .ref walker_, .ref rd, .ref machine_, .ref trial_, .ref dk])), (rd, .inr (4, [.ref lenses_, .int 0, .int 0, .int 0, .int (-1), .int (-1), .ref tp, .ref names_, .ref quoted_, .ref links_, .ref walker2_, .int 0, .int 0, .int 0]))] H := hP
  have hD : va_D A [(sl, .inl (cT, 8, .inr (.inr (.inr (.inr fT))))), (h0, .inr (11, [.ref sl, .ref walker_, .ref rd, .ref machine_, .ref trial_, .ref dk])), (rd, .inr (4, [.ref lenses_, .int 0, .int 0, .int 0, .int (-1), .int (-1), .ref tp, .ref names_, .ref quoted_, .ref links_, .ref walker2_, .int 0, .int 0, .int 0]))] := hD
  obtain rfl := hw
  refine W.eq (g2 := F0 m 5 ls [.null]) rfl ?_
  refine lv_astore_nN (lv' := [(3, .null), (0, .ref h0), (1, .int v1), (2, .int v2)]) hx hb dX11_open_5 rfl hl (by decide) rfl (fun ls hl => ?_)
  refine lv_aload_n hx hb dX11_open_6 rfl (lv_at hl 1 rfl) ?_
  refine lv_iload_n hx hb dX11_open_7 rfl (lv_at hl 3 rfl) ?_
  have hPc := hP.sub (ws' := [(h0, .inr (11, [.ref sl, .ref walker_, .ref rd, .ref machine_, .ref trial_, .ref dk])), (sl, .inl (cT, 8, .inr (.inr (.inr (.inr fT)))))]) [1, 0] rfl
  have hDc := hD.sub (ws' := [(h0, .inr (11, [.ref sl, .ref walker_, .ref rd, .ref machine_, .ref trial_, .ref dk])), (sl, .inl (cT, 8, .inr (.inr (.inr (.inr fT)))))]) [1, 0] (by decide) rfl
  have hKc := hK.sub (tys' := [(cT, .object RX6)]) [0] rfl
  have hFc := va_free (wc := [(h0, .inr (11, [.ref sl, .ref walker_, .ref rd, .ref machine_, .ref trial_, .ref dk])), (sl, .inl (cT, 8, .inr (.inr (.inr (.inr fT)))))]) hD hS hA [1, 0] rfl
  refine va_callq (va_runV (As := [.int v2]) (rest := []) ⟨hx, hb, hml, hown, hts⟩ (k_slotAt l dC dI H.size h0 v2 sl walker_ rd machine_ trial_ dk cT fT hf) (cwV 1 hts gk_open_74 rfl rfl rfl (by decide +kernel) ⟨Nat.le_of_ble_eq_true rfl, Nat.le_of_ble_eq_true rfl⟩) ⟨fun a U g mk q => by obtain ⟨q0, q1, qP, qK, qD⟩ := q; exact ⟨q0, q1, qP, va_K.moved (u := U) (U := U.calling g mk a) (Vm.Alike.refl U.vm) qK, qD⟩, va_recv hK hP (ci := 11) (q0 := 1) rfl rfl, fun U hU hW => ⟨rfl, by rw [hU], by rw [hU]; exact hPc, va_K.moved hW.alike hKc, hDc.weaken (fun _ _ _ _ => trivial)⟩⟩ rfl rfl hl.1 rfl (lv_room (Nat.le_of_ble_eq_true rfl)) dX11_open_8 ⟨Nat.le_of_ble_eq_true rfl, Nat.le_of_ble_eq_true rfl⟩) hS (fun q _ h => hFc q h) hFc (fun r_4 u t H1 locs ht hvm hw hB hz1 hk1 hS => ?_)
  obtain ⟨hP1, hK1, hD1⟩ := hB
  rw [ht] at hP1
  try dsimp only at hw
  obtain ⟨hP, hD⟩ := va_join (wr := [(rd, .inr (4, [.ref lenses_, .int 0, .int 0, .int 0, .int (-1), .int (-1), .ref tp, .ref names_, .ref quoted_, .ref links_, .ref walker2_, .int 0, .int 0, .int 0]))]) (w1 := [(h0, .inr (11, [.ref sl, .ref walker_, .ref rd, .ref machine_, .ref trial_, .ref dk])), (sl, .inl (cT, 8, .inr (.inr (.inr (.inr fT)))))]) hP hD [1, 0] [2] rfl rfl (by decide) (by decide) hk1 hFc hP1 hD1
  clear hk1 hz1 hPc hDc hFc hP1 hD1 hK1 hKc
  generalize H1 = H at hP hS ⊢
  have hP : va_P (dC, dI) cls [(rd, .inr (4, [.ref lenses_, .int 0, .int 0, .int 0, .int (-1), .int (-1), .ref tp, .ref names_, .ref quoted_, .ref links_, .ref walker2_, .int 0, .int 0, .int 0])), (h0, .inr (11, [.ref sl, .ref walker_, .ref rd, .ref machine_, .ref trial_, .ref dk])), (sl, .inl (cT, 8, .inr (.inr (.inr (.inr fT)))))] H := hP
  have hD : va_D A [(rd, .inr (4, [.ref lenses_, .int 0, .int 0, .int 0, .int (-1), .int (-1), .ref tp, .ref names_, .ref quoted_, .ref links_, .ref walker2_, .int 0, .int 0, .int 0])), (h0, .inr (11, [.ref sl, .ref walker_, .ref rd, .ref machine_, .ref trial_, .ref dk])), (sl, .inl (cT, 8, .inr (.inr (.inr (.inr fT)))))] := hD
  rcases hw with ⟨f_5, rfl⟩ | ⟨f_5, rfl⟩
  · skip
    obtain ⟨t_6, et_6⟩ := hf v2 f_5
    refine W.eq (g2 := F0 m 11 ls [.ref t_6]) (by rw [et_6]; rfl) ?_
    refine lv_astore (lv' := [(4, .ref t_6), (3, .null), (0, .ref h0), (1, .int v1), (2, .int v2)]) hx hb dX11_open_11 hl (by decide) rfl (fun ls hl => ?_)
    refine lv_aload_nN hx hb dX11_open_13 rfl (lv_at hl 1 rfl) ?_
    refine lv_ifnullN (tgt := 40) hx hb dX11_open_14 (by decide) ?_
    refine lv_iconst (v := (-1)) hx hb dX11_open_40 (by decide) ?_
    have hK9 := hK.sub (tys' := [(cT, .object RX6)]) [0] rfl
    have hP9 := hP.sub (ws' := []) [] rfl
    have hD9 := hD.sub (ws' := []) [] (by decide) rfl
    exact W.iret (v := (-1)) hx hb hr (fun t ht hW => ⟨⟨(-1), (), rfl, rfl, by rw [ht]; exact hP9, va_K.moved hW.alike hK9, hD9⟩, hS.F ht⟩) hS.2.2 dX11_open_41
  · skip
    refine W.eq (g2 := F0 m 11 ls [.null]) rfl ?_
    refine lv_astoreN (lv' := [(4, .null), (3, .null), (0, .ref h0), (1, .int v1), (2, .int v2)]) hx hb dX11_open_11 hl (by decide) rfl (fun ls hl => ?_)
    refine lv_aload_nN hx hb dX11_open_13 rfl (lv_at hl 1 rfl) ?_
    refine lv_ifnullN (tgt := 40) hx hb dX11_open_14 (by decide) ?_
    refine lv_iconst (v := (-1)) hx hb dX11_open_40 (by decide) ?_
    have hK9 := hK.sub (tys' := [(cT, .object RX6)]) [0] rfl
    have hP9 := hP.sub (ws' := []) [] rfl
    have hD9 := hD.sub (ws' := []) [] (by decide) rfl
    exact W.iret (v := (-1)) hx hb hr (fun t ht hW => ⟨⟨(-1), (), rfl, rfl, by rw [ht]; exact hP9, va_K.moved hW.alike hK9, hD9⟩, hS.F ht⟩) hS.2.2 dX11_open_41
def wk_many : List Cond := .code yX11_many cX11_many 5 (some .long) :: ([.methodLink RX11 95 yX11_setAt, .instanceMethod yX11_setAt, .selects RX11 yX11_setAt yX11_setAt, .initialized RX11, .code yX11_setAt cX11_setAt 4 (some (.object "PutBack$TextSet")), .methodLink RX11 105 yX11_lensAt, .instanceMethod yX11_lensAt, .selects RX11 yX11_lensAt yX11_lensAt, .code yX11_lensAt cX11_lensAt 2 (some (.object "PutBack$Lens")), .fieldLink RX11 27 "PutBack" "reader" "LPutBack$Reader;", .fieldLink RX11 259 "PutBack$Reader" "told" "I", .constantLong RX11 117 (-1)] ++ wsX40 ++ wsX110)
theorem ik_many_RX4 : ∀ w ∈ u_ws RX4 TX4 14, w ∈ wk_many := fun w h => List.mem_cons_of_mem _ (List.mem_append_left _ (List.mem_append_right _ h))
theorem ik_many_RX11 : ∀ w ∈ u_ws RX11 TX11 6, w ∈ wk_many := fun w h => List.mem_cons_of_mem _ (List.mem_append_right _ h)
theorem gk_many_95g : GoodIn wk_many wk_setAt := goodIn_r _ [5, 6, 7, 8, 4, 9, 10, 11, 13, 14, 15, 16, 17, 18, 19, 20, 21, 22, 23, 24, 25, 26, 27, 28, 29, 30, 31, 32] (by decide +kernel) (by decide +kernel)
theorem gk_many_95 : GoodIn wk_many (wsV RX11 95 RX11 yX11_setAt wk_setAt) := goodIn_app (goodIn_of _ (by decide +kernel)) gk_many_95g
set_option maxHeartbeats 4000000 in
set_option maxRecDepth 100000 in
theorem k_many (l : Launch) (dC : Nat → ClassId) (dI : Nat → Nat → Nat) (sz : Nat) (h0 : Nat) (v1 : Int32) (v2 : Int32) (v3 : Int32) (sl : Nat) (walker_ : Nat) (rd : Nat) (machine_ : Nat) (trial_ : Nat) (dk : Nat) (lenses_ : Nat) (tp : Nat) (names_ : Nat) (quoted_ : Nat) (links_ : Nat) (walker2_ : Nat) : Met l yX11_many wk_many ({ frames := 2, cells := 0, slots := 0, locals := 44 } : Room) (va_Pc [.ref h0, .int v1, .int v2, .int v3] (fun U => U.heap.size = sz ∧ va_P (dC, dI) cls [(h0, .inr (11, [.ref sl, .ref walker_, .ref rd, .ref machine_, .ref trial_, .ref dk])), (rd, .inr (4, [.ref lenses_, .int 0, .int 0, .int 0, .int (-1), .int (-1), .ref tp, .ref names_, .ref quoted_, .ref links_, .ref walker2_, .int 0, .int 0, .int 0]))] U.heap ∧ va_K (dC, dI) cls [] U ∧ va_D (fun _ => True) [(h0, .inr (11, [.ref sl, .ref walker_, .ref rd, .ref machine_, .ref trial_, .ref dk])), (rd, .inr (4, [.ref lenses_, .int 0, .int 0, .int 0, .int (-1), .int (-1), .ref tp, .ref names_, .ref quoted_, .ref links_, .ref walker2_, .int 0, .int 0, .int 0]))])) (va_Ql (fun (r : Int64) (_ : Unit) => r = -1) (fun (_ : Unit) t => va_P (dC, dI) cls [] t.heap ∧ va_K (dC, dI) cls [] t ∧ va_D (va_A [(h0, .inr (11, [.ref sl, .ref walker_, .ref rd, .ref machine_, .ref trial_, .ref dk])), (rd, .inr (4, [.ref lenses_, .int 0, .int 0, .int 0, .int (-1), .int (-1), .ref tp, .ref names_, .ref quoted_, .ref links_, .ref walker2_, .int 0, .int 0, .int 0]))] sz) []) (va_A [(h0, .inr (11, [.ref sl, .ref walker_, .ref rd, .ref machine_, .ref trial_, .ref dk])), (rd, .inr (4, [.ref lenses_, .int 0, .int 0, .int 0, .int (-1), .int (-1), .ref tp, .ref names_, .ref quoted_, .ref links_, .ref walker2_, .int 0, .int 0, .int 0]))] sz)) 0 0 (va_A [(h0, .inr (11, [.ref sl, .ref walker_, .ref rd, .ref machine_, .ref trial_, .ref dk])), (rd, .inr (4, [.ref lenses_, .int 0, .int 0, .int 0, .int (-1), .int (-1), .ref tp, .ref names_, .ref quoted_, .ref links_, .ref walker2_, .int 0, .int 0, .int 0]))] sz) := by
  refine Met.ofW (cc := cX11_many) (maxL := 5) (ret := (some .long)) (by decide) rfl ?_
  intro p e s m args below meth c s₁ B hml hv
  obtain ⟨rfl, hsz, hP, hK, hD0⟩ := hv
  have hx := B.exec
  have hb := B.bytes
  have hr := B.returns
  have hts := atoms_spec (ws := wk_many) B.pre
  have hown : s.vm.findClass RX11 = some m.cls := findClass_of_methodNamed B.named
  have hlocks := B.notSynchronized
  subst hsz
  have hD := hD0.self (sz := s.heap.size)
  generalize hAe : va_A [(h0, .inr (11, [.ref sl, .ref walker_, .ref rd, .ref machine_, .ref trial_, .ref dk])), (rd, .inr (4, [.ref lenses_, .int 0, .int 0, .int 0, .int (-1), .int (-1), .ref tp, .ref names_, .ref quoted_, .ref links_, .ref walker2_, .int 0, .int 0, .int 0]))] s.heap.size = A at hD ⊢
  have hA : ∀ q : Nat, s.heap.size ≤ q → A q := fun q h => by rw [← hAe]; exact Or.inr h
  have hP : va_P (dC, dI) cls [(h0, .inr (11, [.ref sl, .ref walker_, .ref rd, .ref machine_, .ref trial_, .ref dk])), (rd, .inr (4, [.ref lenses_, .int 0, .int 0, .int 0, .int (-1), .int (-1), .ref tp, .ref names_, .ref quoted_, .ref links_, .ref walker2_, .int 0, .int 0, .int 0]))] s.heap := hP
  have hl := lv_entry ([.ref h0, .int v1, .int v2, .int v3]) (n := 5) (Nat.le_of_ble_eq_true rfl)
  rw [lg_entry_eq]
  generalize (lg_sl ([.ref h0, .int v1, .int v2, .int v3]) ++ List.replicate (5 - (lg_sl ([.ref h0, .int v1, .int v2, .int v3])).length) Slot.unset).toArray = ls at hl ⊢
  have hl : lv_has ls 5 [(0, .ref h0), (1, .int v1), (2, .int v2), (3, .int v3)] := hl
  obtain ⟨H, hH⟩ : ∃ H : Heap, s.heap = H := ⟨_, rfl⟩
  rw [hH] at hP ⊢
  have hS : va_S A s.heap H [] := by rw [← hH]; exact va_S.rf
  refine lv_aload_n hx hb dX11_many_0 rfl (lv_at hl 0 rfl) ?_
  refine lv_iload_n hx hb dX11_many_1 rfl (lv_at hl 1 rfl) ?_
  refine lv_iload_n hx hb dX11_many_2 rfl (lv_at hl 2 rfl) ?_
  have hPc := hP.sub (ws' := [(h0, .inr (11, [.ref sl, .ref walker_, .ref rd, .ref machine_, .ref trial_, .ref dk])), (rd, .inr (4, [.ref lenses_, .int 0, .int 0, .int 0, .int (-1), .int (-1), .ref tp, .ref names_, .ref quoted_, .ref links_, .ref walker2_, .int 0, .int 0, .int 0]))]) [0, 1] rfl
  have hDc := hD.sub (ws' := [(h0, .inr (11, [.ref sl, .ref walker_, .ref rd, .ref machine_, .ref trial_, .ref dk])), (rd, .inr (4, [.ref lenses_, .int 0, .int 0, .int 0, .int (-1), .int (-1), .ref tp, .ref names_, .ref quoted_, .ref links_, .ref walker2_, .int 0, .int 0, .int 0]))]) [0, 1] (by decide) rfl
  have hKc := hK.sub (tys' := []) [] rfl
  have hFc := va_free (wc := [(h0, .inr (11, [.ref sl, .ref walker_, .ref rd, .ref machine_, .ref trial_, .ref dk])), (rd, .inr (4, [.ref lenses_, .int 0, .int 0, .int 0, .int (-1), .int (-1), .ref tp, .ref names_, .ref quoted_, .ref links_, .ref walker2_, .int 0, .int 0, .int 0]))]) hD hS hA [0, 1] rfl
  refine va_callq (va_runV (As := [.int v1, .int v2]) (rest := []) ⟨hx, hb, hml, hown, hts⟩ (k_setAt l dC dI H.size h0 v1 v2 sl walker_ rd machine_ trial_ dk lenses_ tp names_ quoted_ links_ walker2_) (cwV 2 hts gk_many_95 rfl rfl rfl (by decide +kernel) ⟨Nat.le_of_ble_eq_true rfl, Nat.le_of_ble_eq_true rfl⟩) ⟨fun a U g mk q => by obtain ⟨q0, q1, qP, qK, qD⟩ := q; exact ⟨q0, q1, qP, va_K.moved (u := U) (U := U.calling g mk a) (Vm.Alike.refl U.vm) qK, qD⟩, va_recv hK hP (ci := 11) (q0 := 0) rfl rfl, fun U hU hW => ⟨rfl, by rw [hU], by rw [hU]; exact hPc, va_K.moved hW.alike hKc, hDc.weaken (fun _ _ _ _ => trivial)⟩⟩ rfl rfl hl.1 rfl (lv_room (Nat.le_of_ble_eq_true rfl)) dX11_many_3 ⟨Nat.le_of_ble_eq_true rfl, Nat.le_of_ble_eq_true rfl⟩) hS (fun q _ h => hFc q h) hFc (fun r_2 u t H1 locs ht hvm hw hB hz1 hk1 hS => ?_)
  obtain ⟨hP1, hK1, hD1⟩ := hB
  rw [ht] at hP1
  try dsimp only at hw
  obtain ⟨hP, hD⟩ := va_join (wr := []) (w1 := [(h0, .inr (11, [.ref sl, .ref walker_, .ref rd, .ref machine_, .ref trial_, .ref dk])), (rd, .inr (4, [.ref lenses_, .int 0, .int 0, .int 0, .int (-1), .int (-1), .ref tp, .ref names_, .ref quoted_, .ref links_, .ref walker2_, .int 0, .int 0, .int 0]))]) hP hD [0, 1] [] rfl rfl (by decide) (by decide) hk1 hFc hP1 hD1
  clear hk1 hz1 hPc hDc hFc hP1 hD1 hK1 hKc
  generalize H1 = H at hP hS ⊢
  have hP : va_P (dC, dI) cls [(h0, .inr (11, [.ref sl, .ref walker_, .ref rd, .ref machine_, .ref trial_, .ref dk])), (rd, .inr (4, [.ref lenses_, .int 0, .int 0, .int 0, .int (-1), .int (-1), .ref tp, .ref names_, .ref quoted_, .ref links_, .ref walker2_, .int 0, .int 0, .int 0]))] H := hP
  have hD : va_D A [(h0, .inr (11, [.ref sl, .ref walker_, .ref rd, .ref machine_, .ref trial_, .ref dk])), (rd, .inr (4, [.ref lenses_, .int 0, .int 0, .int 0, .int (-1), .int (-1), .ref tp, .ref names_, .ref quoted_, .ref links_, .ref walker2_, .int 0, .int 0, .int 0]))] := hD
  obtain rfl := hw
  refine W.eq (g2 := F0 m 6 ls [.null]) rfl ?_
  refine lv_astoreN (lv' := [(4, .null), (0, .ref h0), (1, .int v1), (2, .int v2), (3, .int v3)]) hx hb dX11_many_6 hl (by decide) rfl (fun ls hl => ?_)
  refine lv_aloadN hx hb dX11_many_8 (lv_at hl 0 rfl) ?_
  refine lv_ifnullN (tgt := 23) hx hb dX11_many_10 (by decide) ?_
  refine lv_ldc2 hx hb hown (hts (.constantLong RX11 117 (-1)) (by decide +kernel)) dX11_many_23 ?_
  have hK9 := hK.sub (tys' := []) [] rfl
  have hP9 := hP.sub (ws' := []) [] rfl
  have hD9 := hD.sub (ws' := []) [] (by decide) rfl
  exact W.lret (v := (-1)) hx hb hr (fun t ht hW => ⟨⟨(-1), (), rfl, rfl, by rw [ht]; exact hP9, va_K.moved hW.alike hK9, hD9⟩, hS.F ht⟩) hS.2.2 dX11_many_26
def wk_edit : List Cond := .code yX11_edit cX11_edit 7 (some .int) :: ([.fieldLink RX11 48 "PutBack" "desk" "LPutBack$Desk;", .fieldLink RX11 212 "PutBack$Desk" "lens" "LPutBack$Lens;"] ++ wsX00 ++ wsX110)
theorem ik_edit_RX0 : ∀ w ∈ u_ws RX0 TX0 15, w ∈ wk_edit := fun w h => List.mem_cons_of_mem _ (List.mem_append_left _ (List.mem_append_right _ h))
theorem ik_edit_RX11 : ∀ w ∈ u_ws RX11 TX11 6, w ∈ wk_edit := fun w h => List.mem_cons_of_mem _ (List.mem_append_right _ h)
set_option maxHeartbeats 4000000 in
set_option maxRecDepth 100000 in
theorem k_edit (l : Launch) (dC : Nat → ClassId) (dI : Nat → Nat → Nat) (sz : Nat) (h0 : Nat) (v1 : Int32) (v2 : Int32) (v3 : Int32) (v4 : Int32) (sl : Nat) (walker_ : Nat) (rd : Nat) (machine_ : Nat) (trial_ : Nat) (dk : Nat) (source_ : Nat) (view_ : Nat) (spare_ : Nat) (outcome_ : Nat) (oldSources_ : Nat) (oldViews_ : Nat) : Met l yX11_edit wk_edit ({ frames := 0, cells := 0, slots := 0, locals := 0 } : Room) (va_Pc [.ref h0, .int v1, .int v2, .int v3, .int v4] (fun U => U.heap.size = sz ∧ va_P (dC, dI) cls [(h0, .inr (11, [.ref sl, .ref walker_, .ref rd, .ref machine_, .ref trial_, .ref dk])), (dk, .inr (0, [.null, .int (-1), .int 0, .int 0, .int 0, .int 0, .int 0, .int 0, .ref source_, .ref view_, .ref spare_, .ref outcome_, .ref oldSources_, .ref oldViews_, .int 0]))] U.heap ∧ va_K (dC, dI) cls [] U ∧ va_D (fun _ => True) [(h0, .inr (11, [.ref sl, .ref walker_, .ref rd, .ref machine_, .ref trial_, .ref dk])), (dk, .inr (0, [.null, .int (-1), .int 0, .int 0, .int 0, .int 0, .int 0, .int 0, .ref source_, .ref view_, .ref spare_, .ref outcome_, .ref oldSources_, .ref oldViews_, .int 0]))])) (va_Qi (fun (r : Int32) (_ : Unit) => r = -1) (fun (_ : Unit) t => va_P (dC, dI) cls [] t.heap ∧ va_K (dC, dI) cls [] t ∧ va_D (va_A [(h0, .inr (11, [.ref sl, .ref walker_, .ref rd, .ref machine_, .ref trial_, .ref dk])), (dk, .inr (0, [.null, .int (-1), .int 0, .int 0, .int 0, .int 0, .int 0, .int 0, .ref source_, .ref view_, .ref spare_, .ref outcome_, .ref oldSources_, .ref oldViews_, .int 0]))] sz) []) (va_A [(h0, .inr (11, [.ref sl, .ref walker_, .ref rd, .ref machine_, .ref trial_, .ref dk])), (dk, .inr (0, [.null, .int (-1), .int 0, .int 0, .int 0, .int 0, .int 0, .int 0, .ref source_, .ref view_, .ref spare_, .ref outcome_, .ref oldSources_, .ref oldViews_, .int 0]))] sz)) 0 0 (va_A [(h0, .inr (11, [.ref sl, .ref walker_, .ref rd, .ref machine_, .ref trial_, .ref dk])), (dk, .inr (0, [.null, .int (-1), .int 0, .int 0, .int 0, .int 0, .int 0, .int 0, .ref source_, .ref view_, .ref spare_, .ref outcome_, .ref oldSources_, .ref oldViews_, .int 0]))] sz) := by
  refine Met.ofW (cc := cX11_edit) (maxL := 7) (ret := (some .int)) (by decide) rfl ?_
  intro p e s m args below meth c s₁ B hml hv
  obtain ⟨rfl, hsz, hP, hK, hD0⟩ := hv
  have hx := B.exec
  have hb := B.bytes
  have hr := B.returns
  have hts := atoms_spec (ws := wk_edit) B.pre
  have hown : s.vm.findClass RX11 = some m.cls := findClass_of_methodNamed B.named
  have hlocks := B.notSynchronized
  subst hsz
  have hD := hD0.self (sz := s.heap.size)
  generalize hAe : va_A [(h0, .inr (11, [.ref sl, .ref walker_, .ref rd, .ref machine_, .ref trial_, .ref dk])), (dk, .inr (0, [.null, .int (-1), .int 0, .int 0, .int 0, .int 0, .int 0, .int 0, .ref source_, .ref view_, .ref spare_, .ref outcome_, .ref oldSources_, .ref oldViews_, .int 0]))] s.heap.size = A at hD ⊢
  have hA : ∀ q : Nat, s.heap.size ≤ q → A q := fun q h => by rw [← hAe]; exact Or.inr h
  have hP : va_P (dC, dI) cls [(h0, .inr (11, [.ref sl, .ref walker_, .ref rd, .ref machine_, .ref trial_, .ref dk])), (dk, .inr (0, [.null, .int (-1), .int 0, .int 0, .int 0, .int 0, .int 0, .int 0, .ref source_, .ref view_, .ref spare_, .ref outcome_, .ref oldSources_, .ref oldViews_, .int 0]))] s.heap := hP
  have hl := lv_entry ([.ref h0, .int v1, .int v2, .int v3, .int v4]) (n := 7) (Nat.le_of_ble_eq_true rfl)
  rw [lg_entry_eq]
  generalize (lg_sl ([.ref h0, .int v1, .int v2, .int v3, .int v4]) ++ List.replicate (7 - (lg_sl ([.ref h0, .int v1, .int v2, .int v3, .int v4])).length) Slot.unset).toArray = ls at hl ⊢
  have hl : lv_has ls 7 [(0, .ref h0), (1, .int v1), (2, .int v2), (3, .int v3), (4, .int v4)] := hl
  obtain ⟨H, hH⟩ : ∃ H : Heap, s.heap = H := ⟨_, rfl⟩
  rw [hH] at hP ⊢
  have hS : va_S A s.heap H [] := by rw [← hH]; exact va_S.rf
  refine lv_aload_n hx hb dX11_edit_0 rfl (lv_at hl 0 rfl) ?_
  refine va_get (D := (dC, dI)) (ci := 11) (v := .ref dk) (C := RX11) (T := TX11) (N := 6) hx hb hts ik_edit_RX11 hown hK hP 0 rfl rfl 5 (by decide) (hts (.fieldLink RX11 48 "PutBack" "desk" "LPutBack$Desk;") (by decide +kernel)) (fun _ h9 => h9) rfl dX11_edit_1 ?_
  refine va_get (D := (dC, dI)) (ci := 0) (v := .null) (C := RX0) (T := TX0) (N := 15) hx hb hts ik_edit_RX0 hown hK hP 1 rfl rfl 0 (by decide) (hts (.fieldLink RX11 212 "PutBack$Desk" "lens" "LPutBack$Lens;") (by decide +kernel)) (fun _ h9 => h9) rfl dX11_edit_4 ?_
  refine lv_ifnonnullN hx hb dX11_edit_7 ?_
  refine lv_iconst (v := (-1)) hx hb dX11_edit_10 (by decide) ?_
  have hK9 := hK.sub (tys' := []) [] rfl
  have hP9 := hP.sub (ws' := []) [] rfl
  have hD9 := hD.sub (ws' := []) [] (by decide) rfl
  exact W.iret (v := (-1)) hx hb hr (fun t ht hW => ⟨⟨(-1), (), rfl, rfl, by rw [ht]; exact hP9, va_K.moved hW.alike hK9, hD9⟩, hS.F ht⟩) hS.2.2 dX11_edit_11
def wk_takeBack : List Cond := .code yX0_takeBack cX0_takeBack 1 (some .boolean) :: ([.fieldLink RX0 48 "PutBack$Desk" "kept" "I"] ++ wsX00)
theorem ik_takeBack_RX0 : ∀ w ∈ u_ws RX0 TX0 15, w ∈ wk_takeBack := fun w h => List.mem_cons_of_mem _ (List.mem_append_right _ h)
set_option maxHeartbeats 4000000 in
set_option maxRecDepth 100000 in
theorem k_takeBack (l : Launch) (dC : Nat → ClassId) (dI : Nat → Nat → Nat) (sz : Nat) (dk : Nat) (source_ : Nat) (view_ : Nat) (spare_ : Nat) (outcome_ : Nat) (oldSources_ : Nat) (oldViews_ : Nat) : Met l yX0_takeBack wk_takeBack ({ frames := 0, cells := 0, slots := 0, locals := 0 } : Room) (va_Pc [.ref dk] (fun U => U.heap.size = sz ∧ va_P (dC, dI) cls [(dk, .inr (0, [.null, .int (-1), .int 0, .int 0, .int 0, .int 0, .int 0, .int 0, .ref source_, .ref view_, .ref spare_, .ref outcome_, .ref oldSources_, .ref oldViews_, .int 0]))] U.heap ∧ va_K (dC, dI) cls [] U ∧ va_D (fun _ => True) [(dk, .inr (0, [.null, .int (-1), .int 0, .int 0, .int 0, .int 0, .int 0, .int 0, .ref source_, .ref view_, .ref spare_, .ref outcome_, .ref oldSources_, .ref oldViews_, .int 0]))])) (va_Qi (fun (r : Int32) (_ : Unit) => r = 0) (fun (_ : Unit) t => va_P (dC, dI) cls [] t.heap ∧ va_K (dC, dI) cls [] t ∧ va_D (va_A [(dk, .inr (0, [.null, .int (-1), .int 0, .int 0, .int 0, .int 0, .int 0, .int 0, .ref source_, .ref view_, .ref spare_, .ref outcome_, .ref oldSources_, .ref oldViews_, .int 0]))] sz) []) (va_A [(dk, .inr (0, [.null, .int (-1), .int 0, .int 0, .int 0, .int 0, .int 0, .int 0, .ref source_, .ref view_, .ref spare_, .ref outcome_, .ref oldSources_, .ref oldViews_, .int 0]))] sz)) 0 0 (va_A [(dk, .inr (0, [.null, .int (-1), .int 0, .int 0, .int 0, .int 0, .int 0, .int 0, .ref source_, .ref view_, .ref spare_, .ref outcome_, .ref oldSources_, .ref oldViews_, .int 0]))] sz) := by
  refine Met.ofW (cc := cX0_takeBack) (maxL := 1) (ret := (some .boolean)) (by decide) rfl ?_
  intro p e s m args below meth c s₁ B hml hv
  obtain ⟨rfl, hsz, hP, hK, hD0⟩ := hv
  have hx := B.exec
  have hb := B.bytes
  have hr := B.returns
  have hts := atoms_spec (ws := wk_takeBack) B.pre
  have hown : s.vm.findClass RX0 = some m.cls := findClass_of_methodNamed B.named
  have hlocks := B.notSynchronized
  subst hsz
  have hD := hD0.self (sz := s.heap.size)
  generalize hAe : va_A [(dk, .inr (0, [.null, .int (-1), .int 0, .int 0, .int 0, .int 0, .int 0, .int 0, .ref source_, .ref view_, .ref spare_, .ref outcome_, .ref oldSources_, .ref oldViews_, .int 0]))] s.heap.size = A at hD ⊢
  have hA : ∀ q : Nat, s.heap.size ≤ q → A q := fun q h => by rw [← hAe]; exact Or.inr h
  have hP : va_P (dC, dI) cls [(dk, .inr (0, [.null, .int (-1), .int 0, .int 0, .int 0, .int 0, .int 0, .int 0, .ref source_, .ref view_, .ref spare_, .ref outcome_, .ref oldSources_, .ref oldViews_, .int 0]))] s.heap := hP
  have hl := lv_entry ([.ref dk]) (n := 1) (Nat.le_of_ble_eq_true rfl)
  rw [lg_entry_eq]
  generalize (lg_sl ([.ref dk]) ++ List.replicate (1 - (lg_sl ([.ref dk])).length) Slot.unset).toArray = ls at hl ⊢
  have hl : lv_has ls 1 [(0, .ref dk)] := hl
  obtain ⟨H, hH⟩ : ∃ H : Heap, s.heap = H := ⟨_, rfl⟩
  rw [hH] at hP ⊢
  have hS : va_S A s.heap H [] := by rw [← hH]; exact va_S.rf
  refine lv_aload_n hx hb dX0_takeBack_0 rfl (lv_at hl 0 rfl) ?_
  refine va_get (D := (dC, dI)) (ci := 0) (v := .int 0) (C := RX0) (T := TX0) (N := 15) hx hb hts ik_takeBack_RX0 hown hK hP 0 rfl rfl 2 (by decide) (hts (.fieldLink RX0 48 "PutBack$Desk" "kept" "I") (by decide +kernel)) (fun _ h9 => h9) rfl dX0_takeBack_1 ?_
  refine lv_if_gt (tgt := 9) hx hb dX0_takeBack_4 (by decide) (fun c_1 => ?_) (fun c_1 => ?_)
  · exact (by revert c_1; decide : False).elim
  refine lv_iconst (v := 0) hx hb dX0_takeBack_7 (by decide) ?_
  have hK9 := hK.sub (tys' := []) [] rfl
  have hP9 := hP.sub (ws' := []) [] rfl
  have hD9 := hD.sub (ws' := []) [] (by decide) rfl
  exact W.zret (v := 0) (ty := .boolean) hx hb hr rfl (fun t ht hW => ⟨⟨0, (), rfl, rfl, by rw [ht]; exact hP9, va_K.moved hW.alike hK9, hD9⟩, hS.F ht⟩) hS.2.2 dX0_takeBack_8
def wk_undo : List Cond := .code yX11_undo cX11_undo 1 (some .boolean) :: ([.fieldLink RX11 48 "PutBack" "desk" "LPutBack$Desk;", .methodLink RX11 226 yX0_takeBack, .instanceMethod yX0_takeBack, .selects RX0 yX0_takeBack yX0_takeBack, .initialized RX0, .code yX0_takeBack cX0_takeBack 1 (some .boolean), .fieldLink RX0 48 "PutBack$Desk" "kept" "I"] ++ wsX00 ++ wsX110)
theorem ik_undo_RX0 : ∀ w ∈ u_ws RX0 TX0 15, w ∈ wk_undo := fun w h => List.mem_cons_of_mem _ (List.mem_append_left _ (List.mem_append_right _ h))
theorem ik_undo_RX11 : ∀ w ∈ u_ws RX11 TX11 6, w ∈ wk_undo := fun w h => List.mem_cons_of_mem _ (List.mem_append_right _ h)
theorem gk_undo_226g : GoodIn wk_undo wk_takeBack := goodIn_r _ [6, 7, 8, 9, 10, 11, 12, 13, 14, 15, 16, 17, 18, 19, 20, 21, 22] (by decide +kernel) (by decide +kernel)
theorem gk_undo_226 : GoodIn wk_undo (wsV RX11 226 RX0 yX0_takeBack wk_takeBack) := goodIn_app (goodIn_of _ (by decide +kernel)) gk_undo_226g
set_option maxHeartbeats 4000000 in
set_option maxRecDepth 100000 in
theorem k_undo (l : Launch) (dC : Nat → ClassId) (dI : Nat → Nat → Nat) (sz : Nat) (h0 : Nat) (sl : Nat) (walker_ : Nat) (rd : Nat) (machine_ : Nat) (trial_ : Nat) (dk : Nat) (source_ : Nat) (view_ : Nat) (spare_ : Nat) (outcome_ : Nat) (oldSources_ : Nat) (oldViews_ : Nat) : Met l yX11_undo wk_undo ({ frames := 1, cells := 0, slots := 0, locals := 20 } : Room) (va_Pc [.ref h0] (fun U => U.heap.size = sz ∧ va_P (dC, dI) cls [(h0, .inr (11, [.ref sl, .ref walker_, .ref rd, .ref machine_, .ref trial_, .ref dk])), (dk, .inr (0, [.null, .int (-1), .int 0, .int 0, .int 0, .int 0, .int 0, .int 0, .ref source_, .ref view_, .ref spare_, .ref outcome_, .ref oldSources_, .ref oldViews_, .int 0]))] U.heap ∧ va_K (dC, dI) cls [] U ∧ va_D (fun _ => True) [(h0, .inr (11, [.ref sl, .ref walker_, .ref rd, .ref machine_, .ref trial_, .ref dk])), (dk, .inr (0, [.null, .int (-1), .int 0, .int 0, .int 0, .int 0, .int 0, .int 0, .ref source_, .ref view_, .ref spare_, .ref outcome_, .ref oldSources_, .ref oldViews_, .int 0]))])) (va_Qi (fun (r : Int32) (_ : Unit) => r = 0) (fun (_ : Unit) t => va_P (dC, dI) cls [] t.heap ∧ va_K (dC, dI) cls [] t ∧ va_D (va_A [(h0, .inr (11, [.ref sl, .ref walker_, .ref rd, .ref machine_, .ref trial_, .ref dk])), (dk, .inr (0, [.null, .int (-1), .int 0, .int 0, .int 0, .int 0, .int 0, .int 0, .ref source_, .ref view_, .ref spare_, .ref outcome_, .ref oldSources_, .ref oldViews_, .int 0]))] sz) []) (va_A [(h0, .inr (11, [.ref sl, .ref walker_, .ref rd, .ref machine_, .ref trial_, .ref dk])), (dk, .inr (0, [.null, .int (-1), .int 0, .int 0, .int 0, .int 0, .int 0, .int 0, .ref source_, .ref view_, .ref spare_, .ref outcome_, .ref oldSources_, .ref oldViews_, .int 0]))] sz)) 0 0 (va_A [(h0, .inr (11, [.ref sl, .ref walker_, .ref rd, .ref machine_, .ref trial_, .ref dk])), (dk, .inr (0, [.null, .int (-1), .int 0, .int 0, .int 0, .int 0, .int 0, .int 0, .ref source_, .ref view_, .ref spare_, .ref outcome_, .ref oldSources_, .ref oldViews_, .int 0]))] sz) := by
  refine Met.ofW (cc := cX11_undo) (maxL := 1) (ret := (some .boolean)) (by decide) rfl ?_
  intro p e s m args below meth c s₁ B hml hv
  obtain ⟨rfl, hsz, hP, hK, hD0⟩ := hv
  have hx := B.exec
  have hb := B.bytes
  have hr := B.returns
  have hts := atoms_spec (ws := wk_undo) B.pre
  have hown : s.vm.findClass RX11 = some m.cls := findClass_of_methodNamed B.named
  have hlocks := B.notSynchronized
  subst hsz
  have hD := hD0.self (sz := s.heap.size)
  generalize hAe : va_A [(h0, .inr (11, [.ref sl, .ref walker_, .ref rd, .ref machine_, .ref trial_, .ref dk])), (dk, .inr (0, [.null, .int (-1), .int 0, .int 0, .int 0, .int 0, .int 0, .int 0, .ref source_, .ref view_, .ref spare_, .ref outcome_, .ref oldSources_, .ref oldViews_, .int 0]))] s.heap.size = A at hD ⊢
  have hA : ∀ q : Nat, s.heap.size ≤ q → A q := fun q h => by rw [← hAe]; exact Or.inr h
  have hP : va_P (dC, dI) cls [(h0, .inr (11, [.ref sl, .ref walker_, .ref rd, .ref machine_, .ref trial_, .ref dk])), (dk, .inr (0, [.null, .int (-1), .int 0, .int 0, .int 0, .int 0, .int 0, .int 0, .ref source_, .ref view_, .ref spare_, .ref outcome_, .ref oldSources_, .ref oldViews_, .int 0]))] s.heap := hP
  have hl := lv_entry ([.ref h0]) (n := 1) (Nat.le_of_ble_eq_true rfl)
  rw [lg_entry_eq]
  generalize (lg_sl ([.ref h0]) ++ List.replicate (1 - (lg_sl ([.ref h0])).length) Slot.unset).toArray = ls at hl ⊢
  have hl : lv_has ls 1 [(0, .ref h0)] := hl
  obtain ⟨H, hH⟩ : ∃ H : Heap, s.heap = H := ⟨_, rfl⟩
  rw [hH] at hP ⊢
  have hS : va_S A s.heap H [] := by rw [← hH]; exact va_S.rf
  refine lv_aload_n hx hb dX11_undo_0 rfl (lv_at hl 0 rfl) ?_
  refine va_get (D := (dC, dI)) (ci := 11) (v := .ref dk) (C := RX11) (T := TX11) (N := 6) hx hb hts ik_undo_RX11 hown hK hP 0 rfl rfl 5 (by decide) (hts (.fieldLink RX11 48 "PutBack" "desk" "LPutBack$Desk;") (by decide +kernel)) (fun _ h9 => h9) rfl dX11_undo_1 ?_
  have hPc := hP.sub (ws' := [(dk, .inr (0, [.null, .int (-1), .int 0, .int 0, .int 0, .int 0, .int 0, .int 0, .ref source_, .ref view_, .ref spare_, .ref outcome_, .ref oldSources_, .ref oldViews_, .int 0]))]) [1] rfl
  have hDc := hD.sub (ws' := [(dk, .inr (0, [.null, .int (-1), .int 0, .int 0, .int 0, .int 0, .int 0, .int 0, .ref source_, .ref view_, .ref spare_, .ref outcome_, .ref oldSources_, .ref oldViews_, .int 0]))]) [1] (by decide) rfl
  have hKc := hK.sub (tys' := []) [] rfl
  have hFc := va_free (wc := [(dk, .inr (0, [.null, .int (-1), .int 0, .int 0, .int 0, .int 0, .int 0, .int 0, .ref source_, .ref view_, .ref spare_, .ref outcome_, .ref oldSources_, .ref oldViews_, .int 0]))]) hD hS hA [1] rfl
  refine va_calli (va_runV (As := []) (rest := []) ⟨hx, hb, hml, hown, hts⟩ (k_takeBack l dC dI H.size dk source_ view_ spare_ outcome_ oldSources_ oldViews_) (cwV 0 hts gk_undo_226 rfl rfl rfl (by decide +kernel) ⟨Nat.le_of_ble_eq_true rfl, Nat.le_of_ble_eq_true rfl⟩) ⟨fun a U g mk q => by obtain ⟨q0, q1, qP, qK, qD⟩ := q; exact ⟨q0, q1, qP, va_K.moved (u := U) (U := U.calling g mk a) (Vm.Alike.refl U.vm) qK, qD⟩, va_recv hK hP (ci := 0) (q0 := 1) rfl rfl, fun U hU hW => ⟨rfl, by rw [hU], by rw [hU]; exact hPc, va_K.moved hW.alike hKc, hDc.weaken (fun _ _ _ _ => trivial)⟩⟩ rfl rfl hl.1 rfl (lv_room (Nat.le_of_ble_eq_true rfl)) dX11_undo_4 ⟨Nat.le_of_ble_eq_true rfl, Nat.le_of_ble_eq_true rfl⟩) hS (fun q _ h => hFc q h) hFc (fun r_2 u t H1 locs ht hvm hw hB hz1 hk1 hS => ?_)
  obtain ⟨hP1, hK1, hD1⟩ := hB
  rw [ht] at hP1
  try dsimp only at hw
  obtain ⟨hP, hD⟩ := va_join (wr := [(h0, .inr (11, [.ref sl, .ref walker_, .ref rd, .ref machine_, .ref trial_, .ref dk]))]) (w1 := []) hP hD [1] [0] rfl rfl (by decide) (by decide) hk1 hFc hP1 hD1
  clear hk1 hz1 hPc hDc hFc hP1 hD1 hK1 hKc
  generalize H1 = H at hP hS ⊢
  have hP : va_P (dC, dI) cls [(h0, .inr (11, [.ref sl, .ref walker_, .ref rd, .ref machine_, .ref trial_, .ref dk]))] H := hP
  have hD : va_D A [(h0, .inr (11, [.ref sl, .ref walker_, .ref rd, .ref machine_, .ref trial_, .ref dk]))] := hD
  obtain rfl := hw
  have hK9 := hK.sub (tys' := []) [] rfl
  have hP9 := hP.sub (ws' := []) [] rfl
  have hD9 := hD.sub (ws' := []) [] (by decide) rfl
  exact W.zret (v := 0) (ty := .boolean) hx hb hr rfl (fun t ht hW => ⟨⟨0, (), rfl, rfl, by rw [ht]; exact hP9, va_K.moved hW.alike hK9, hD9⟩, hS.F ht⟩) hS.2.2 dX11_undo_7
def wk_copy : List Cond := .code yX11_copy cX11_copy 4 (some .int) :: ([.methodLink RX11 74 yX11_slotAt, .instanceMethod yX11_slotAt, .selects RX11 yX11_slotAt yX11_slotAt, .initialized RX11, .code yX11_slotAt cX11_slotAt 2 (some (.object "PutBack$Text")), .fieldLink RX11 11 "PutBack" "slots" "[LPutBack$Text;", .fieldLink RX11 48 "PutBack" "desk" "LPutBack$Desk;", .fieldLink RX11 212 "PutBack$Desk" "lens" "LPutBack$Lens;"] ++ wsX00 ++ wsX110)
theorem ik_copy_RX0 : ∀ w ∈ u_ws RX0 TX0 15, w ∈ wk_copy := fun w h => List.mem_cons_of_mem _ (List.mem_append_left _ (List.mem_append_right _ h))
theorem ik_copy_RX11 : ∀ w ∈ u_ws RX11 TX11 6, w ∈ wk_copy := fun w h => List.mem_cons_of_mem _ (List.mem_append_right _ h)
theorem gk_copy_74g : GoodIn wk_copy wk_slotAt := goodIn_r _ [5, 6, 24, 25, 26, 27, 28, 29] (by decide +kernel) (by decide +kernel)
theorem gk_copy_74 : GoodIn wk_copy (wsV RX11 74 RX11 yX11_slotAt wk_slotAt) := goodIn_app (goodIn_of _ (by decide +kernel)) gk_copy_74g
set_option maxHeartbeats 4000000 in
set_option maxRecDepth 100000 in
theorem k_copy (l : Launch) (dC : Nat → ClassId) (dI : Nat → Nat → Nat) (sz : Nat) (h0 : Nat) (v1 : Int32) (v2 : Int32) (sl : Nat) (walker_ : Nat) (rd : Nat) (machine_ : Nat) (trial_ : Nat) (dk : Nat) (cT : ClassId) (fT : Nat → Option Nat) (source_ : Nat) (view_ : Nat) (spare_ : Nat) (outcome_ : Nat) (oldSources_ : Nat) (oldViews_ : Nat) (hf : ∀ i : Int32, inS i → ∃ t, fT i.toNatClampNeg = some t) : Met l yX11_copy wk_copy ({ frames := 1, cells := 0, slots := 0, locals := 21 } : Room) (va_Pc [.ref h0, .int v1, .int v2] (fun U => U.heap.size = sz ∧ va_P (dC, dI) cls [(h0, .inr (11, [.ref sl, .ref walker_, .ref rd, .ref machine_, .ref trial_, .ref dk])), (sl, .inl (cT, 8, .inr (.inr (.inr (.inr fT))))), (dk, .inr (0, [.null, .int (-1), .int 0, .int 0, .int 0, .int 0, .int 0, .int 0, .ref source_, .ref view_, .ref spare_, .ref outcome_, .ref oldSources_, .ref oldViews_, .int 0]))] U.heap ∧ va_K (dC, dI) cls [(cT, .object RX6)] U ∧ va_D (fun _ => True) [(h0, .inr (11, [.ref sl, .ref walker_, .ref rd, .ref machine_, .ref trial_, .ref dk])), (sl, .inl (cT, 8, .inr (.inr (.inr (.inr fT))))), (dk, .inr (0, [.null, .int (-1), .int 0, .int 0, .int 0, .int 0, .int 0, .int 0, .ref source_, .ref view_, .ref spare_, .ref outcome_, .ref oldSources_, .ref oldViews_, .int 0]))])) (va_Qi (fun (r : Int32) (_ : Unit) => r = -1) (fun (_ : Unit) t => va_P (dC, dI) cls [] t.heap ∧ va_K (dC, dI) cls [(cT, .object RX6)] t ∧ va_D (va_A [(h0, .inr (11, [.ref sl, .ref walker_, .ref rd, .ref machine_, .ref trial_, .ref dk])), (sl, .inl (cT, 8, .inr (.inr (.inr (.inr fT))))), (dk, .inr (0, [.null, .int (-1), .int 0, .int 0, .int 0, .int 0, .int 0, .int 0, .ref source_, .ref view_, .ref spare_, .ref outcome_, .ref oldSources_, .ref oldViews_, .int 0]))] sz) []) (va_A [(h0, .inr (11, [.ref sl, .ref walker_, .ref rd, .ref machine_, .ref trial_, .ref dk])), (sl, .inl (cT, 8, .inr (.inr (.inr (.inr fT))))), (dk, .inr (0, [.null, .int (-1), .int 0, .int 0, .int 0, .int 0, .int 0, .int 0, .ref source_, .ref view_, .ref spare_, .ref outcome_, .ref oldSources_, .ref oldViews_, .int 0]))] sz)) 0 0 (va_A [(h0, .inr (11, [.ref sl, .ref walker_, .ref rd, .ref machine_, .ref trial_, .ref dk])), (sl, .inl (cT, 8, .inr (.inr (.inr (.inr fT))))), (dk, .inr (0, [.null, .int (-1), .int 0, .int 0, .int 0, .int 0, .int 0, .int 0, .ref source_, .ref view_, .ref spare_, .ref outcome_, .ref oldSources_, .ref oldViews_, .int 0]))] sz) := by
  refine Met.ofW (cc := cX11_copy) (maxL := 4) (ret := (some .int)) (by decide) rfl ?_
  intro p e s m args below meth c s₁ B hml hv
  obtain ⟨rfl, hsz, hP, hK, hD0⟩ := hv
  have hx := B.exec
  have hb := B.bytes
  have hr := B.returns
  have hts := atoms_spec (ws := wk_copy) B.pre
  have hown : s.vm.findClass RX11 = some m.cls := findClass_of_methodNamed B.named
  have hlocks := B.notSynchronized
  subst hsz
  have hD := hD0.self (sz := s.heap.size)
  generalize hAe : va_A [(h0, .inr (11, [.ref sl, .ref walker_, .ref rd, .ref machine_, .ref trial_, .ref dk])), (sl, .inl (cT, 8, .inr (.inr (.inr (.inr fT))))), (dk, .inr (0, [.null, .int (-1), .int 0, .int 0, .int 0, .int 0, .int 0, .int 0, .ref source_, .ref view_, .ref spare_, .ref outcome_, .ref oldSources_, .ref oldViews_, .int 0]))] s.heap.size = A at hD ⊢
  have hA : ∀ q : Nat, s.heap.size ≤ q → A q := fun q h => by rw [← hAe]; exact Or.inr h
  have hP : va_P (dC, dI) cls [(h0, .inr (11, [.ref sl, .ref walker_, .ref rd, .ref machine_, .ref trial_, .ref dk])), (sl, .inl (cT, 8, .inr (.inr (.inr (.inr fT))))), (dk, .inr (0, [.null, .int (-1), .int 0, .int 0, .int 0, .int 0, .int 0, .int 0, .ref source_, .ref view_, .ref spare_, .ref outcome_, .ref oldSources_, .ref oldViews_, .int 0]))] s.heap := hP
  have hl := lv_entry ([.ref h0, .int v1, .int v2]) (n := 4) (Nat.le_of_ble_eq_true rfl)
  rw [lg_entry_eq]
  generalize (lg_sl ([.ref h0, .int v1, .int v2]) ++ List.replicate (4 - (lg_sl ([.ref h0, .int v1, .int v2])).length) Slot.unset).toArray = ls at hl ⊢
  have hl : lv_has ls 4 [(0, .ref h0), (1, .int v1), (2, .int v2)] := hl
  obtain ⟨H, hH⟩ : ∃ H : Heap, s.heap = H := ⟨_, rfl⟩
  rw [hH] at hP ⊢
  have hS : va_S A s.heap H [] := by rw [← hH]; exact va_S.rf
  refine lv_aload_n hx hb dX11_copy_0 rfl (lv_at hl 0 rfl) ?_
  refine lv_iload_n hx hb dX11_copy_1 rfl (lv_at hl 2 rfl) ?_
  have hPc := hP.sub (ws' := [(h0, .inr (11, [.ref sl, .ref walker_, .ref rd, .ref machine_, .ref trial_, .ref dk])), (sl, .inl (cT, 8, .inr (.inr (.inr (.inr fT)))))]) [0, 1] rfl
  have hDc := hD.sub (ws' := [(h0, .inr (11, [.ref sl, .ref walker_, .ref rd, .ref machine_, .ref trial_, .ref dk])), (sl, .inl (cT, 8, .inr (.inr (.inr (.inr fT)))))]) [0, 1] (by decide) rfl
  have hKc := hK.sub (tys' := [(cT, .object RX6)]) [0] rfl
  have hFc := va_free (wc := [(h0, .inr (11, [.ref sl, .ref walker_, .ref rd, .ref machine_, .ref trial_, .ref dk])), (sl, .inl (cT, 8, .inr (.inr (.inr (.inr fT)))))]) hD hS hA [0, 1] rfl
  refine va_callq (va_runV (As := [.int v2]) (rest := []) ⟨hx, hb, hml, hown, hts⟩ (k_slotAt l dC dI H.size h0 v2 sl walker_ rd machine_ trial_ dk cT fT hf) (cwV 1 hts gk_copy_74 rfl rfl rfl (by decide +kernel) ⟨Nat.le_of_ble_eq_true rfl, Nat.le_of_ble_eq_true rfl⟩) ⟨fun a U g mk q => by obtain ⟨q0, q1, qP, qK, qD⟩ := q; exact ⟨q0, q1, qP, va_K.moved (u := U) (U := U.calling g mk a) (Vm.Alike.refl U.vm) qK, qD⟩, va_recv hK hP (ci := 11) (q0 := 0) rfl rfl, fun U hU hW => ⟨rfl, by rw [hU], by rw [hU]; exact hPc, va_K.moved hW.alike hKc, hDc.weaken (fun _ _ _ _ => trivial)⟩⟩ rfl rfl hl.1 rfl (lv_room (Nat.le_of_ble_eq_true rfl)) dX11_copy_2 ⟨Nat.le_of_ble_eq_true rfl, Nat.le_of_ble_eq_true rfl⟩) hS (fun q _ h => hFc q h) hFc (fun r_2 u t H1 locs ht hvm hw hB hz1 hk1 hS => ?_)
  obtain ⟨hP1, hK1, hD1⟩ := hB
  rw [ht] at hP1
  try dsimp only at hw
  obtain ⟨hP, hD⟩ := va_join (wr := [(dk, .inr (0, [.null, .int (-1), .int 0, .int 0, .int 0, .int 0, .int 0, .int 0, .ref source_, .ref view_, .ref spare_, .ref outcome_, .ref oldSources_, .ref oldViews_, .int 0]))]) (w1 := [(h0, .inr (11, [.ref sl, .ref walker_, .ref rd, .ref machine_, .ref trial_, .ref dk])), (sl, .inl (cT, 8, .inr (.inr (.inr (.inr fT)))))]) hP hD [0, 1] [2] rfl rfl (by decide) (by decide) hk1 hFc hP1 hD1
  clear hk1 hz1 hPc hDc hFc hP1 hD1 hK1 hKc
  generalize H1 = H at hP hS ⊢
  have hP : va_P (dC, dI) cls [(dk, .inr (0, [.null, .int (-1), .int 0, .int 0, .int 0, .int 0, .int 0, .int 0, .ref source_, .ref view_, .ref spare_, .ref outcome_, .ref oldSources_, .ref oldViews_, .int 0])), (h0, .inr (11, [.ref sl, .ref walker_, .ref rd, .ref machine_, .ref trial_, .ref dk])), (sl, .inl (cT, 8, .inr (.inr (.inr (.inr fT)))))] H := hP
  have hD : va_D A [(dk, .inr (0, [.null, .int (-1), .int 0, .int 0, .int 0, .int 0, .int 0, .int 0, .ref source_, .ref view_, .ref spare_, .ref outcome_, .ref oldSources_, .ref oldViews_, .int 0])), (h0, .inr (11, [.ref sl, .ref walker_, .ref rd, .ref machine_, .ref trial_, .ref dk])), (sl, .inl (cT, 8, .inr (.inr (.inr (.inr fT)))))] := hD
  rcases hw with ⟨f_3, rfl⟩ | ⟨f_3, rfl⟩
  · skip
    obtain ⟨t_4, et_4⟩ := hf v2 f_3
    refine W.eq (g2 := F0 m 5 ls [.ref t_4]) (by rw [et_4]; rfl) ?_
    refine lv_astore_n (lv' := [(3, .ref t_4), (0, .ref h0), (1, .int v1), (2, .int v2)]) hx hb dX11_copy_5 rfl hl (by decide) rfl (fun ls hl => ?_)
    refine lv_aload_n hx hb dX11_copy_6 rfl (lv_at hl 1 rfl) ?_
    refine va_get (D := (dC, dI)) (ci := 11) (v := .ref dk) (C := RX11) (T := TX11) (N := 6) hx hb hts ik_copy_RX11 hown hK hP 1 rfl rfl 5 (by decide) (hts (.fieldLink RX11 48 "PutBack" "desk" "LPutBack$Desk;") (by decide +kernel)) (fun _ h9 => h9) rfl dX11_copy_7 ?_
    refine va_get (D := (dC, dI)) (ci := 0) (v := .null) (C := RX0) (T := TX0) (N := 15) hx hb hts ik_copy_RX0 hown hK hP 0 rfl rfl 0 (by decide) (hts (.fieldLink RX11 212 "PutBack$Desk" "lens" "LPutBack$Lens;") (by decide +kernel)) (fun _ h9 => h9) rfl dX11_copy_10 ?_
    refine lv_ifnullN (tgt := 29) hx hb dX11_copy_13 (by decide) ?_
    refine lv_iconst (v := (-1)) hx hb dX11_copy_29 (by decide) ?_
    have hK9 := hK.sub (tys' := [(cT, .object RX6)]) [0] rfl
    have hP9 := hP.sub (ws' := []) [] rfl
    have hD9 := hD.sub (ws' := []) [] (by decide) rfl
    exact W.iret (v := (-1)) hx hb hr (fun t ht hW => ⟨⟨(-1), (), rfl, rfl, by rw [ht]; exact hP9, va_K.moved hW.alike hK9, hD9⟩, hS.F ht⟩) hS.2.2 dX11_copy_30
  · skip
    refine W.eq (g2 := F0 m 5 ls [.null]) rfl ?_
    refine lv_astore_nN (lv' := [(3, .null), (0, .ref h0), (1, .int v1), (2, .int v2)]) hx hb dX11_copy_5 rfl hl (by decide) rfl (fun ls hl => ?_)
    refine lv_aload_n hx hb dX11_copy_6 rfl (lv_at hl 1 rfl) ?_
    refine va_get (D := (dC, dI)) (ci := 11) (v := .ref dk) (C := RX11) (T := TX11) (N := 6) hx hb hts ik_copy_RX11 hown hK hP 1 rfl rfl 5 (by decide) (hts (.fieldLink RX11 48 "PutBack" "desk" "LPutBack$Desk;") (by decide +kernel)) (fun _ h9 => h9) rfl dX11_copy_7 ?_
    refine va_get (D := (dC, dI)) (ci := 0) (v := .null) (C := RX0) (T := TX0) (N := 15) hx hb hts ik_copy_RX0 hown hK hP 0 rfl rfl 0 (by decide) (hts (.fieldLink RX11 212 "PutBack$Desk" "lens" "LPutBack$Lens;") (by decide +kernel)) (fun _ h9 => h9) rfl dX11_copy_10 ?_
    refine lv_ifnullN (tgt := 29) hx hb dX11_copy_13 (by decide) ?_
    refine lv_iconst (v := (-1)) hx hb dX11_copy_29 (by decide) ?_
    have hK9 := hK.sub (tys' := [(cT, .object RX6)]) [0] rfl
    have hP9 := hP.sub (ws' := []) [] rfl
    have hD9 := hD.sub (ws' := []) [] (by decide) rfl
    exact W.iret (v := (-1)) hx hb hr (fun t ht hW => ⟨⟨(-1), (), rfl, rfl, by rw [ht]; exact hP9, va_K.moved hW.alike hK9, hD9⟩, hS.F ht⟩) hS.2.2 dX11_copy_30
def wk_moved : List Cond := .code yX11_moved cX11_moved 2 (some .int) :: ([.fieldLink RX11 48 "PutBack" "desk" "LPutBack$Desk;", .fieldLink RX11 232 "PutBack$Desk" "hasMoved" "Z"] ++ wsX00 ++ wsX110)
theorem ik_moved_RX0 : ∀ w ∈ u_ws RX0 TX0 15, w ∈ wk_moved := fun w h => List.mem_cons_of_mem _ (List.mem_append_left _ (List.mem_append_right _ h))
theorem ik_moved_RX11 : ∀ w ∈ u_ws RX11 TX11 6, w ∈ wk_moved := fun w h => List.mem_cons_of_mem _ (List.mem_append_right _ h)
set_option maxHeartbeats 4000000 in
set_option maxRecDepth 100000 in
theorem k_moved (l : Launch) (dC : Nat → ClassId) (dI : Nat → Nat → Nat) (sz : Nat) (h0 : Nat) (v1 : Int32) (sl : Nat) (walker_ : Nat) (rd : Nat) (machine_ : Nat) (trial_ : Nat) (dk : Nat) (source_ : Nat) (view_ : Nat) (spare_ : Nat) (outcome_ : Nat) (oldSources_ : Nat) (oldViews_ : Nat) : Met l yX11_moved wk_moved ({ frames := 0, cells := 0, slots := 0, locals := 0 } : Room) (va_Pc [.ref h0, .int v1] (fun U => U.heap.size = sz ∧ va_P (dC, dI) cls [(h0, .inr (11, [.ref sl, .ref walker_, .ref rd, .ref machine_, .ref trial_, .ref dk])), (dk, .inr (0, [.null, .int (-1), .int 0, .int 0, .int 0, .int 0, .int 0, .int 0, .ref source_, .ref view_, .ref spare_, .ref outcome_, .ref oldSources_, .ref oldViews_, .int 0]))] U.heap ∧ va_K (dC, dI) cls [] U ∧ va_D (fun _ => True) [(h0, .inr (11, [.ref sl, .ref walker_, .ref rd, .ref machine_, .ref trial_, .ref dk])), (dk, .inr (0, [.null, .int (-1), .int 0, .int 0, .int 0, .int 0, .int 0, .int 0, .ref source_, .ref view_, .ref spare_, .ref outcome_, .ref oldSources_, .ref oldViews_, .int 0]))])) (va_Qi (fun (r : Int32) (_ : Unit) => r = -1) (fun (_ : Unit) t => va_P (dC, dI) cls [] t.heap ∧ va_K (dC, dI) cls [] t ∧ va_D (va_A [(h0, .inr (11, [.ref sl, .ref walker_, .ref rd, .ref machine_, .ref trial_, .ref dk])), (dk, .inr (0, [.null, .int (-1), .int 0, .int 0, .int 0, .int 0, .int 0, .int 0, .ref source_, .ref view_, .ref spare_, .ref outcome_, .ref oldSources_, .ref oldViews_, .int 0]))] sz) []) (va_A [(h0, .inr (11, [.ref sl, .ref walker_, .ref rd, .ref machine_, .ref trial_, .ref dk])), (dk, .inr (0, [.null, .int (-1), .int 0, .int 0, .int 0, .int 0, .int 0, .int 0, .ref source_, .ref view_, .ref spare_, .ref outcome_, .ref oldSources_, .ref oldViews_, .int 0]))] sz)) 0 0 (va_A [(h0, .inr (11, [.ref sl, .ref walker_, .ref rd, .ref machine_, .ref trial_, .ref dk])), (dk, .inr (0, [.null, .int (-1), .int 0, .int 0, .int 0, .int 0, .int 0, .int 0, .ref source_, .ref view_, .ref spare_, .ref outcome_, .ref oldSources_, .ref oldViews_, .int 0]))] sz) := by
  refine Met.ofW (cc := cX11_moved) (maxL := 2) (ret := (some .int)) (by decide) rfl ?_
  intro p e s m args below meth c s₁ B hml hv
  obtain ⟨rfl, hsz, hP, hK, hD0⟩ := hv
  have hx := B.exec
  have hb := B.bytes
  have hr := B.returns
  have hts := atoms_spec (ws := wk_moved) B.pre
  have hown : s.vm.findClass RX11 = some m.cls := findClass_of_methodNamed B.named
  have hlocks := B.notSynchronized
  subst hsz
  have hD := hD0.self (sz := s.heap.size)
  generalize hAe : va_A [(h0, .inr (11, [.ref sl, .ref walker_, .ref rd, .ref machine_, .ref trial_, .ref dk])), (dk, .inr (0, [.null, .int (-1), .int 0, .int 0, .int 0, .int 0, .int 0, .int 0, .ref source_, .ref view_, .ref spare_, .ref outcome_, .ref oldSources_, .ref oldViews_, .int 0]))] s.heap.size = A at hD ⊢
  have hA : ∀ q : Nat, s.heap.size ≤ q → A q := fun q h => by rw [← hAe]; exact Or.inr h
  have hP : va_P (dC, dI) cls [(h0, .inr (11, [.ref sl, .ref walker_, .ref rd, .ref machine_, .ref trial_, .ref dk])), (dk, .inr (0, [.null, .int (-1), .int 0, .int 0, .int 0, .int 0, .int 0, .int 0, .ref source_, .ref view_, .ref spare_, .ref outcome_, .ref oldSources_, .ref oldViews_, .int 0]))] s.heap := hP
  have hl := lv_entry ([.ref h0, .int v1]) (n := 2) (Nat.le_of_ble_eq_true rfl)
  rw [lg_entry_eq]
  generalize (lg_sl ([.ref h0, .int v1]) ++ List.replicate (2 - (lg_sl ([.ref h0, .int v1])).length) Slot.unset).toArray = ls at hl ⊢
  have hl : lv_has ls 2 [(0, .ref h0), (1, .int v1)] := hl
  obtain ⟨H, hH⟩ : ∃ H : Heap, s.heap = H := ⟨_, rfl⟩
  rw [hH] at hP ⊢
  have hS : va_S A s.heap H [] := by rw [← hH]; exact va_S.rf
  refine lv_aload_n hx hb dX11_moved_0 rfl (lv_at hl 0 rfl) ?_
  refine va_get (D := (dC, dI)) (ci := 11) (v := .ref dk) (C := RX11) (T := TX11) (N := 6) hx hb hts ik_moved_RX11 hown hK hP 0 rfl rfl 5 (by decide) (hts (.fieldLink RX11 48 "PutBack" "desk" "LPutBack$Desk;") (by decide +kernel)) (fun _ h9 => h9) rfl dX11_moved_1 ?_
  refine va_get (D := (dC, dI)) (ci := 0) (v := .int 0) (C := RX0) (T := TX0) (N := 15) hx hb hts ik_moved_RX0 hown hK hP 1 rfl rfl 4 (by decide) (hts (.fieldLink RX11 232 "PutBack$Desk" "hasMoved" "Z") (by decide +kernel)) (fun _ h9 => h9) rfl dX11_moved_4 ?_
  refine lv_if_ne (tgt := 12) hx hb dX11_moved_7 (by decide) (fun c_1 => ?_) (fun c_1 => ?_)
  · exact (by revert c_1; decide : False).elim
  refine lv_iconst (v := (-1)) hx hb dX11_moved_10 (by decide) ?_
  have hK9 := hK.sub (tys' := []) [] rfl
  have hP9 := hP.sub (ws' := []) [] rfl
  have hD9 := hD.sub (ws' := []) [] (by decide) rfl
  exact W.iret (v := (-1)) hx hb hr (fun t ht hW => ⟨⟨(-1), (), rfl, rfl, by rw [ht]; exact hP9, va_K.moved hW.alike hK9, hD9⟩, hS.F ht⟩) hS.2.2 dX11_moved_11
def wk_fault : List Cond := .code yX11_fault cX11_fault 2 (some .int) :: ([.fieldLink RX11 27 "PutBack" "reader" "LPutBack$Reader;", .fieldLink RX11 65 "PutBack$Reader" "fault" "I", .fieldLink RX11 68 "PutBack$Reader" "faultPlace" "I", .fieldLink RX11 71 "PutBack$Reader" "shownBy" "I"] ++ wsX40 ++ wsX110)
theorem ik_fault_RX4 : ∀ w ∈ u_ws RX4 TX4 14, w ∈ wk_fault := fun w h => List.mem_cons_of_mem _ (List.mem_append_left _ (List.mem_append_right _ h))
theorem ik_fault_RX11 : ∀ w ∈ u_ws RX11 TX11 6, w ∈ wk_fault := fun w h => List.mem_cons_of_mem _ (List.mem_append_right _ h)
set_option maxHeartbeats 4000000 in
set_option maxRecDepth 100000 in
theorem k_fault (l : Launch) (dC : Nat → ClassId) (dI : Nat → Nat → Nat) (sz : Nat) (h0 : Nat) (v1 : Int32) (sl : Nat) (walker_ : Nat) (rd : Nat) (machine_ : Nat) (trial_ : Nat) (dk : Nat) (lenses_ : Nat) (tp : Nat) (names_ : Nat) (quoted_ : Nat) (links_ : Nat) (walker2_ : Nat) : Met l yX11_fault wk_fault ({ frames := 0, cells := 0, slots := 0, locals := 0 } : Room) (va_Pc [.ref h0, .int v1] (fun U => U.heap.size = sz ∧ va_P (dC, dI) cls [(h0, .inr (11, [.ref sl, .ref walker_, .ref rd, .ref machine_, .ref trial_, .ref dk])), (rd, .inr (4, [.ref lenses_, .int 0, .int 0, .int 0, .int (-1), .int (-1), .ref tp, .ref names_, .ref quoted_, .ref links_, .ref walker2_, .int 0, .int 0, .int 0]))] U.heap ∧ va_K (dC, dI) cls [] U ∧ va_D (fun _ => True) [(h0, .inr (11, [.ref sl, .ref walker_, .ref rd, .ref machine_, .ref trial_, .ref dk])), (rd, .inr (4, [.ref lenses_, .int 0, .int 0, .int 0, .int (-1), .int (-1), .ref tp, .ref names_, .ref quoted_, .ref links_, .ref walker2_, .int 0, .int 0, .int 0]))])) (va_Qi (fun (r : Int32) (_ : Unit) => r = sp_fault v1) (fun (_ : Unit) t => va_P (dC, dI) cls [] t.heap ∧ va_K (dC, dI) cls [] t ∧ va_D (va_A [(h0, .inr (11, [.ref sl, .ref walker_, .ref rd, .ref machine_, .ref trial_, .ref dk])), (rd, .inr (4, [.ref lenses_, .int 0, .int 0, .int 0, .int (-1), .int (-1), .ref tp, .ref names_, .ref quoted_, .ref links_, .ref walker2_, .int 0, .int 0, .int 0]))] sz) []) (va_A [(h0, .inr (11, [.ref sl, .ref walker_, .ref rd, .ref machine_, .ref trial_, .ref dk])), (rd, .inr (4, [.ref lenses_, .int 0, .int 0, .int 0, .int (-1), .int (-1), .ref tp, .ref names_, .ref quoted_, .ref links_, .ref walker2_, .int 0, .int 0, .int 0]))] sz)) 0 0 (va_A [(h0, .inr (11, [.ref sl, .ref walker_, .ref rd, .ref machine_, .ref trial_, .ref dk])), (rd, .inr (4, [.ref lenses_, .int 0, .int 0, .int 0, .int (-1), .int (-1), .ref tp, .ref names_, .ref quoted_, .ref links_, .ref walker2_, .int 0, .int 0, .int 0]))] sz) := by
  refine Met.ofW (cc := cX11_fault) (maxL := 2) (ret := (some .int)) (by decide) rfl ?_
  intro p e s m args below meth c s₁ B hml hv
  obtain ⟨rfl, hsz, hP, hK, hD0⟩ := hv
  have hx := B.exec
  have hb := B.bytes
  have hr := B.returns
  have hts := atoms_spec (ws := wk_fault) B.pre
  have hown : s.vm.findClass RX11 = some m.cls := findClass_of_methodNamed B.named
  have hlocks := B.notSynchronized
  subst hsz
  have hD := hD0.self (sz := s.heap.size)
  generalize hAe : va_A [(h0, .inr (11, [.ref sl, .ref walker_, .ref rd, .ref machine_, .ref trial_, .ref dk])), (rd, .inr (4, [.ref lenses_, .int 0, .int 0, .int 0, .int (-1), .int (-1), .ref tp, .ref names_, .ref quoted_, .ref links_, .ref walker2_, .int 0, .int 0, .int 0]))] s.heap.size = A at hD ⊢
  have hA : ∀ q : Nat, s.heap.size ≤ q → A q := fun q h => by rw [← hAe]; exact Or.inr h
  have hP : va_P (dC, dI) cls [(h0, .inr (11, [.ref sl, .ref walker_, .ref rd, .ref machine_, .ref trial_, .ref dk])), (rd, .inr (4, [.ref lenses_, .int 0, .int 0, .int 0, .int (-1), .int (-1), .ref tp, .ref names_, .ref quoted_, .ref links_, .ref walker2_, .int 0, .int 0, .int 0]))] s.heap := hP
  have hl := lv_entry ([.ref h0, .int v1]) (n := 2) (Nat.le_of_ble_eq_true rfl)
  rw [lg_entry_eq]
  generalize (lg_sl ([.ref h0, .int v1]) ++ List.replicate (2 - (lg_sl ([.ref h0, .int v1])).length) Slot.unset).toArray = ls at hl ⊢
  have hl : lv_has ls 2 [(0, .ref h0), (1, .int v1)] := hl
  obtain ⟨H, hH⟩ : ∃ H : Heap, s.heap = H := ⟨_, rfl⟩
  rw [hH] at hP ⊢
  have hS : va_S A s.heap H [] := by rw [← hH]; exact va_S.rf
  refine lv_iload_n hx hb dX11_fault_0 rfl (lv_at hl 1 rfl) ?_
  by_cases q_1 : v1 = (0 : Int32)
  · skip
    refine lv_tableIn (off := 27) (tgt := 28) hx hb dX11_fault_1 (by rw [q_1]; decide) (by rw [q_1]; decide) (by rw [q_1]; decide) (by decide) ?_
    refine lv_aload_n hx hb dX11_fault_28 rfl (lv_at hl 0 rfl) ?_
    refine va_get (D := (dC, dI)) (ci := 11) (v := .ref rd) (C := RX11) (T := TX11) (N := 6) hx hb hts ik_fault_RX11 hown hK hP 0 rfl rfl 2 (by decide) (hts (.fieldLink RX11 27 "PutBack" "reader" "LPutBack$Reader;") (by decide +kernel)) (fun _ h9 => h9) rfl dX11_fault_29 ?_
    refine va_get (D := (dC, dI)) (ci := 4) (v := .int 0) (C := RX4) (T := TX4) (N := 14) hx hb hts ik_fault_RX4 hown hK hP 1 rfl rfl 3 (by decide) (hts (.fieldLink RX11 65 "PutBack$Reader" "fault" "I") (by decide +kernel)) (fun _ h9 => h9) rfl dX11_fault_32 ?_
    have hK9 := hK.sub (tys' := []) [] rfl
    have hP9 := hP.sub (ws' := []) [] rfl
    have hD9 := hD.sub (ws' := []) [] (by decide) rfl
    exact W.iret (v := 0) hx hb hr (fun t ht hW => ⟨⟨0, (), rfl, (by simp [sp_fault, q_1]), by rw [ht]; exact hP9, va_K.moved hW.alike hK9, hD9⟩, hS.F ht⟩) hS.2.2 dX11_fault_35
  by_cases q_2 : v1 = (1 : Int32)
  · skip
    refine lv_tableIn (off := 35) (tgt := 36) hx hb dX11_fault_1 (by rw [q_2]; decide) (by rw [q_2]; decide) (by rw [q_2]; decide) (by decide) ?_
    refine lv_aload_n hx hb dX11_fault_36 rfl (lv_at hl 0 rfl) ?_
    refine va_get (D := (dC, dI)) (ci := 11) (v := .ref rd) (C := RX11) (T := TX11) (N := 6) hx hb hts ik_fault_RX11 hown hK hP 0 rfl rfl 2 (by decide) (hts (.fieldLink RX11 27 "PutBack" "reader" "LPutBack$Reader;") (by decide +kernel)) (fun _ h9 => h9) rfl dX11_fault_37 ?_
    refine va_get (D := (dC, dI)) (ci := 4) (v := .int (-1)) (C := RX4) (T := TX4) (N := 14) hx hb hts ik_fault_RX4 hown hK hP 1 rfl rfl 4 (by decide) (hts (.fieldLink RX11 68 "PutBack$Reader" "faultPlace" "I") (by decide +kernel)) (fun _ h9 => h9) rfl dX11_fault_40 ?_
    have hK9 := hK.sub (tys' := []) [] rfl
    have hP9 := hP.sub (ws' := []) [] rfl
    have hD9 := hD.sub (ws' := []) [] (by decide) rfl
    exact W.iret (v := (-1)) hx hb hr (fun t ht hW => ⟨⟨(-1), (), rfl, (by simp [sp_fault, q_2]), by rw [ht]; exact hP9, va_K.moved hW.alike hK9, hD9⟩, hS.F ht⟩) hS.2.2 dX11_fault_43
  by_cases q_3 : v1 = (2 : Int32)
  · skip
    refine lv_tableIn (off := 43) (tgt := 44) hx hb dX11_fault_1 (by rw [q_3]; decide) (by rw [q_3]; decide) (by rw [q_3]; decide) (by decide) ?_
    refine lv_aload_n hx hb dX11_fault_44 rfl (lv_at hl 0 rfl) ?_
    refine va_get (D := (dC, dI)) (ci := 11) (v := .ref rd) (C := RX11) (T := TX11) (N := 6) hx hb hts ik_fault_RX11 hown hK hP 0 rfl rfl 2 (by decide) (hts (.fieldLink RX11 27 "PutBack" "reader" "LPutBack$Reader;") (by decide +kernel)) (fun _ h9 => h9) rfl dX11_fault_45 ?_
    refine va_get (D := (dC, dI)) (ci := 4) (v := .int (-1)) (C := RX4) (T := TX4) (N := 14) hx hb hts ik_fault_RX4 hown hK hP 1 rfl rfl 5 (by decide) (hts (.fieldLink RX11 71 "PutBack$Reader" "shownBy" "I") (by decide +kernel)) (fun _ h9 => h9) rfl dX11_fault_48 ?_
    have hK9 := hK.sub (tys' := []) [] rfl
    have hP9 := hP.sub (ws' := []) [] rfl
    have hD9 := hD.sub (ws' := []) [] (by decide) rfl
    exact W.iret (v := (-1)) hx hb hr (fun t ht hW => ⟨⟨(-1), (), rfl, (by simp [sp_fault, q_3]), by rw [ht]; exact hP9, va_K.moved hW.alike hK9, hD9⟩, hS.F ht⟩) hS.2.2 dX11_fault_51
  refine lv_tableOut (tgt := 52) hx hb dX11_fault_1 (zOut 0 2 (by decide) (fun k h1 h2 => ?_)) (by decide) ?_
  · skip
    intro hk; have hc : k = 0 ∨ k = 1 ∨ k = 2 := by omega
    rcases hc with rfl | rfl | rfl
    · exact q_1 hk
    · exact q_2 hk
    · exact q_3 hk
  refine lv_iconst (v := (-1)) hx hb dX11_fault_52 (by decide) ?_
  have hK9 := hK.sub (tys' := []) [] rfl
  have hP9 := hP.sub (ws' := []) [] rfl
  have hD9 := hD.sub (ws' := []) [] (by decide) rfl
  exact W.iret (v := (-1)) hx hb hr (fun t ht hW => ⟨⟨(-1), (), rfl, (by simp [sp_fault, q_1, q_2, q_3]), by rw [ht]; exact hP9, va_K.moved hW.alike hK9, hD9⟩, hS.F ht⟩) hS.2.2 dX11_fault_53
def wk_look : List Cond := .code yX11_look cX11_look 2 (some .int) :: ([.fieldLink RX11 27 "PutBack" "reader" "LPutBack$Reader;", .fieldLink RX11 259 "PutBack$Reader" "told" "I", .fieldLink RX11 53 "PutBack$Reader" "length" "I", .fieldLink RX11 48 "PutBack" "desk" "LPutBack$Desk;", .fieldLink RX11 262 "PutBack$Desk" "number" "I", .fieldLink RX11 265 "PutBack$Desk" "kept" "I", .fieldLink RX11 220 "PutBack$Desk" "refused" "I"] ++ wsX00 ++ wsX40 ++ wsX110)
theorem ik_look_RX0 : ∀ w ∈ u_ws RX0 TX0 15, w ∈ wk_look := fun w h => List.mem_cons_of_mem _ (List.mem_append_left _ (List.mem_append_left _ (List.mem_append_right _ h)))
theorem ik_look_RX4 : ∀ w ∈ u_ws RX4 TX4 14, w ∈ wk_look := fun w h => List.mem_cons_of_mem _ (List.mem_append_left _ (List.mem_append_right _ h))
theorem ik_look_RX11 : ∀ w ∈ u_ws RX11 TX11 6, w ∈ wk_look := fun w h => List.mem_cons_of_mem _ (List.mem_append_right _ h)
set_option maxHeartbeats 4000000 in
set_option maxRecDepth 100000 in
theorem k_look (l : Launch) (dC : Nat → ClassId) (dI : Nat → Nat → Nat) (sz : Nat) (h0 : Nat) (v1 : Int32) (sl : Nat) (walker_ : Nat) (rd : Nat) (machine_ : Nat) (trial_ : Nat) (dk : Nat) (lenses_ : Nat) (tp : Nat) (names_ : Nat) (quoted_ : Nat) (links_ : Nat) (walker2_ : Nat) (source_ : Nat) (view_ : Nat) (spare_ : Nat) (outcome_ : Nat) (oldSources_ : Nat) (oldViews_ : Nat) : Met l yX11_look wk_look ({ frames := 0, cells := 0, slots := 0, locals := 0 } : Room) (va_Pc [.ref h0, .int v1] (fun U => U.heap.size = sz ∧ va_P (dC, dI) cls [(h0, .inr (11, [.ref sl, .ref walker_, .ref rd, .ref machine_, .ref trial_, .ref dk])), (rd, .inr (4, [.ref lenses_, .int 0, .int 0, .int 0, .int (-1), .int (-1), .ref tp, .ref names_, .ref quoted_, .ref links_, .ref walker2_, .int 0, .int 0, .int 0])), (dk, .inr (0, [.null, .int (-1), .int 0, .int 0, .int 0, .int 0, .int 0, .int 0, .ref source_, .ref view_, .ref spare_, .ref outcome_, .ref oldSources_, .ref oldViews_, .int 0]))] U.heap ∧ va_K (dC, dI) cls [] U ∧ va_D (fun _ => True) [(h0, .inr (11, [.ref sl, .ref walker_, .ref rd, .ref machine_, .ref trial_, .ref dk])), (rd, .inr (4, [.ref lenses_, .int 0, .int 0, .int 0, .int (-1), .int (-1), .ref tp, .ref names_, .ref quoted_, .ref links_, .ref walker2_, .int 0, .int 0, .int 0])), (dk, .inr (0, [.null, .int (-1), .int 0, .int 0, .int 0, .int 0, .int 0, .int 0, .ref source_, .ref view_, .ref spare_, .ref outcome_, .ref oldSources_, .ref oldViews_, .int 0]))])) (va_Qi (fun (r : Int32) (_ : Unit) => r = sp_look v1) (fun (_ : Unit) t => va_P (dC, dI) cls [] t.heap ∧ va_K (dC, dI) cls [] t ∧ va_D (va_A [(h0, .inr (11, [.ref sl, .ref walker_, .ref rd, .ref machine_, .ref trial_, .ref dk])), (rd, .inr (4, [.ref lenses_, .int 0, .int 0, .int 0, .int (-1), .int (-1), .ref tp, .ref names_, .ref quoted_, .ref links_, .ref walker2_, .int 0, .int 0, .int 0])), (dk, .inr (0, [.null, .int (-1), .int 0, .int 0, .int 0, .int 0, .int 0, .int 0, .ref source_, .ref view_, .ref spare_, .ref outcome_, .ref oldSources_, .ref oldViews_, .int 0]))] sz) []) (va_A [(h0, .inr (11, [.ref sl, .ref walker_, .ref rd, .ref machine_, .ref trial_, .ref dk])), (rd, .inr (4, [.ref lenses_, .int 0, .int 0, .int 0, .int (-1), .int (-1), .ref tp, .ref names_, .ref quoted_, .ref links_, .ref walker2_, .int 0, .int 0, .int 0])), (dk, .inr (0, [.null, .int (-1), .int 0, .int 0, .int 0, .int 0, .int 0, .int 0, .ref source_, .ref view_, .ref spare_, .ref outcome_, .ref oldSources_, .ref oldViews_, .int 0]))] sz)) 0 0 (va_A [(h0, .inr (11, [.ref sl, .ref walker_, .ref rd, .ref machine_, .ref trial_, .ref dk])), (rd, .inr (4, [.ref lenses_, .int 0, .int 0, .int 0, .int (-1), .int (-1), .ref tp, .ref names_, .ref quoted_, .ref links_, .ref walker2_, .int 0, .int 0, .int 0])), (dk, .inr (0, [.null, .int (-1), .int 0, .int 0, .int 0, .int 0, .int 0, .int 0, .ref source_, .ref view_, .ref spare_, .ref outcome_, .ref oldSources_, .ref oldViews_, .int 0]))] sz) := by
  refine Met.ofW (cc := cX11_look) (maxL := 2) (ret := (some .int)) (by decide) rfl ?_
  intro p e s m args below meth c s₁ B hml hv
  obtain ⟨rfl, hsz, hP, hK, hD0⟩ := hv
  have hx := B.exec
  have hb := B.bytes
  have hr := B.returns
  have hts := atoms_spec (ws := wk_look) B.pre
  have hown : s.vm.findClass RX11 = some m.cls := findClass_of_methodNamed B.named
  have hlocks := B.notSynchronized
  subst hsz
  have hD := hD0.self (sz := s.heap.size)
  generalize hAe : va_A [(h0, .inr (11, [.ref sl, .ref walker_, .ref rd, .ref machine_, .ref trial_, .ref dk])), (rd, .inr (4, [.ref lenses_, .int 0, .int 0, .int 0, .int (-1), .int (-1), .ref tp, .ref names_, .ref quoted_, .ref links_, .ref walker2_, .int 0, .int 0, .int 0])), (dk, .inr (0, [.null, .int (-1), .int 0, .int 0, .int 0, .int 0, .int 0, .int 0, .ref source_, .ref view_, .ref spare_, .ref outcome_, .ref oldSources_, .ref oldViews_, .int 0]))] s.heap.size = A at hD ⊢
  have hA : ∀ q : Nat, s.heap.size ≤ q → A q := fun q h => by rw [← hAe]; exact Or.inr h
  have hP : va_P (dC, dI) cls [(h0, .inr (11, [.ref sl, .ref walker_, .ref rd, .ref machine_, .ref trial_, .ref dk])), (rd, .inr (4, [.ref lenses_, .int 0, .int 0, .int 0, .int (-1), .int (-1), .ref tp, .ref names_, .ref quoted_, .ref links_, .ref walker2_, .int 0, .int 0, .int 0])), (dk, .inr (0, [.null, .int (-1), .int 0, .int 0, .int 0, .int 0, .int 0, .int 0, .ref source_, .ref view_, .ref spare_, .ref outcome_, .ref oldSources_, .ref oldViews_, .int 0]))] s.heap := hP
  have hl := lv_entry ([.ref h0, .int v1]) (n := 2) (Nat.le_of_ble_eq_true rfl)
  rw [lg_entry_eq]
  generalize (lg_sl ([.ref h0, .int v1]) ++ List.replicate (2 - (lg_sl ([.ref h0, .int v1])).length) Slot.unset).toArray = ls at hl ⊢
  have hl : lv_has ls 2 [(0, .ref h0), (1, .int v1)] := hl
  obtain ⟨H, hH⟩ : ∃ H : Heap, s.heap = H := ⟨_, rfl⟩
  rw [hH] at hP ⊢
  have hS : va_S A s.heap H [] := by rw [← hH]; exact va_S.rf
  refine lv_iload_n hx hb dX11_look_0 rfl (lv_at hl 1 rfl) ?_
  by_cases q_1 : v1 = (0 : Int32)
  · skip
    refine lv_tableIn (off := 35) (tgt := 36) hx hb dX11_look_1 (by rw [q_1]; decide) (by rw [q_1]; decide) (by rw [q_1]; decide) (by decide) ?_
    refine lv_aload_n hx hb dX11_look_36 rfl (lv_at hl 0 rfl) ?_
    refine va_get (D := (dC, dI)) (ci := 11) (v := .ref rd) (C := RX11) (T := TX11) (N := 6) hx hb hts ik_look_RX11 hown hK hP 0 rfl rfl 2 (by decide) (hts (.fieldLink RX11 27 "PutBack" "reader" "LPutBack$Reader;") (by decide +kernel)) (fun _ h9 => h9) rfl dX11_look_37 ?_
    refine va_get (D := (dC, dI)) (ci := 4) (v := .int 0) (C := RX4) (T := TX4) (N := 14) hx hb hts ik_look_RX4 hown hK hP 1 rfl rfl 1 (by decide) (hts (.fieldLink RX11 259 "PutBack$Reader" "told" "I") (by decide +kernel)) (fun _ h9 => h9) rfl dX11_look_40 ?_
    have hK9 := hK.sub (tys' := []) [] rfl
    have hP9 := hP.sub (ws' := []) [] rfl
    have hD9 := hD.sub (ws' := []) [] (by decide) rfl
    exact W.iret (v := 0) hx hb hr (fun t ht hW => ⟨⟨0, (), rfl, (by simp [sp_look, q_1]), by rw [ht]; exact hP9, va_K.moved hW.alike hK9, hD9⟩, hS.F ht⟩) hS.2.2 dX11_look_43
  by_cases q_2 : v1 = (1 : Int32)
  · skip
    refine lv_tableIn (off := 43) (tgt := 44) hx hb dX11_look_1 (by rw [q_2]; decide) (by rw [q_2]; decide) (by rw [q_2]; decide) (by decide) ?_
    refine lv_aload_n hx hb dX11_look_44 rfl (lv_at hl 0 rfl) ?_
    refine va_get (D := (dC, dI)) (ci := 11) (v := .ref rd) (C := RX11) (T := TX11) (N := 6) hx hb hts ik_look_RX11 hown hK hP 0 rfl rfl 2 (by decide) (hts (.fieldLink RX11 27 "PutBack" "reader" "LPutBack$Reader;") (by decide +kernel)) (fun _ h9 => h9) rfl dX11_look_45 ?_
    refine va_get (D := (dC, dI)) (ci := 4) (v := .int 0) (C := RX4) (T := TX4) (N := 14) hx hb hts ik_look_RX4 hown hK hP 1 rfl rfl 2 (by decide) (hts (.fieldLink RX11 53 "PutBack$Reader" "length" "I") (by decide +kernel)) (fun _ h9 => h9) rfl dX11_look_48 ?_
    have hK9 := hK.sub (tys' := []) [] rfl
    have hP9 := hP.sub (ws' := []) [] rfl
    have hD9 := hD.sub (ws' := []) [] (by decide) rfl
    exact W.iret (v := 0) hx hb hr (fun t ht hW => ⟨⟨0, (), rfl, (by simp [sp_look, q_2]), by rw [ht]; exact hP9, va_K.moved hW.alike hK9, hD9⟩, hS.F ht⟩) hS.2.2 dX11_look_51
  by_cases q_3 : v1 = (2 : Int32)
  · skip
    refine lv_tableIn (off := 51) (tgt := 52) hx hb dX11_look_1 (by rw [q_3]; decide) (by rw [q_3]; decide) (by rw [q_3]; decide) (by decide) ?_
    refine lv_aload_n hx hb dX11_look_52 rfl (lv_at hl 0 rfl) ?_
    refine va_get (D := (dC, dI)) (ci := 11) (v := .ref dk) (C := RX11) (T := TX11) (N := 6) hx hb hts ik_look_RX11 hown hK hP 0 rfl rfl 5 (by decide) (hts (.fieldLink RX11 48 "PutBack" "desk" "LPutBack$Desk;") (by decide +kernel)) (fun _ h9 => h9) rfl dX11_look_53 ?_
    refine va_get (D := (dC, dI)) (ci := 0) (v := .int (-1)) (C := RX0) (T := TX0) (N := 15) hx hb hts ik_look_RX0 hown hK hP 2 rfl rfl 1 (by decide) (hts (.fieldLink RX11 262 "PutBack$Desk" "number" "I") (by decide +kernel)) (fun _ h9 => h9) rfl dX11_look_56 ?_
    have hK9 := hK.sub (tys' := []) [] rfl
    have hP9 := hP.sub (ws' := []) [] rfl
    have hD9 := hD.sub (ws' := []) [] (by decide) rfl
    exact W.iret (v := (-1)) hx hb hr (fun t ht hW => ⟨⟨(-1), (), rfl, (by simp [sp_look, q_3]), by rw [ht]; exact hP9, va_K.moved hW.alike hK9, hD9⟩, hS.F ht⟩) hS.2.2 dX11_look_59
  by_cases q_4 : v1 = (3 : Int32)
  · skip
    refine lv_tableIn (off := 59) (tgt := 60) hx hb dX11_look_1 (by rw [q_4]; decide) (by rw [q_4]; decide) (by rw [q_4]; decide) (by decide) ?_
    refine lv_aload_n hx hb dX11_look_60 rfl (lv_at hl 0 rfl) ?_
    refine va_get (D := (dC, dI)) (ci := 11) (v := .ref dk) (C := RX11) (T := TX11) (N := 6) hx hb hts ik_look_RX11 hown hK hP 0 rfl rfl 5 (by decide) (hts (.fieldLink RX11 48 "PutBack" "desk" "LPutBack$Desk;") (by decide +kernel)) (fun _ h9 => h9) rfl dX11_look_61 ?_
    refine va_get (D := (dC, dI)) (ci := 0) (v := .int 0) (C := RX0) (T := TX0) (N := 15) hx hb hts ik_look_RX0 hown hK hP 2 rfl rfl 2 (by decide) (hts (.fieldLink RX11 265 "PutBack$Desk" "kept" "I") (by decide +kernel)) (fun _ h9 => h9) rfl dX11_look_64 ?_
    have hK9 := hK.sub (tys' := []) [] rfl
    have hP9 := hP.sub (ws' := []) [] rfl
    have hD9 := hD.sub (ws' := []) [] (by decide) rfl
    exact W.iret (v := 0) hx hb hr (fun t ht hW => ⟨⟨0, (), rfl, (by simp [sp_look, q_4]), by rw [ht]; exact hP9, va_K.moved hW.alike hK9, hD9⟩, hS.F ht⟩) hS.2.2 dX11_look_67
  by_cases q_5 : v1 = (4 : Int32)
  · skip
    refine lv_tableIn (off := 67) (tgt := 68) hx hb dX11_look_1 (by rw [q_5]; decide) (by rw [q_5]; decide) (by rw [q_5]; decide) (by decide) ?_
    refine lv_aload_n hx hb dX11_look_68 rfl (lv_at hl 0 rfl) ?_
    refine va_get (D := (dC, dI)) (ci := 11) (v := .ref dk) (C := RX11) (T := TX11) (N := 6) hx hb hts ik_look_RX11 hown hK hP 0 rfl rfl 5 (by decide) (hts (.fieldLink RX11 48 "PutBack" "desk" "LPutBack$Desk;") (by decide +kernel)) (fun _ h9 => h9) rfl dX11_look_69 ?_
    refine va_get (D := (dC, dI)) (ci := 0) (v := .int 0) (C := RX0) (T := TX0) (N := 15) hx hb hts ik_look_RX0 hown hK hP 2 rfl rfl 3 (by decide) (hts (.fieldLink RX11 220 "PutBack$Desk" "refused" "I") (by decide +kernel)) (fun _ h9 => h9) rfl dX11_look_72 ?_
    have hK9 := hK.sub (tys' := []) [] rfl
    have hP9 := hP.sub (ws' := []) [] rfl
    have hD9 := hD.sub (ws' := []) [] (by decide) rfl
    exact W.iret (v := 0) hx hb hr (fun t ht hW => ⟨⟨0, (), rfl, (by simp [sp_look, q_5]), by rw [ht]; exact hP9, va_K.moved hW.alike hK9, hD9⟩, hS.F ht⟩) hS.2.2 dX11_look_75
  refine lv_tableOut (tgt := 76) hx hb dX11_look_1 (zOut 0 4 (by decide) (fun k h1 h2 => ?_)) (by decide) ?_
  · skip
    intro hk; have hc : k = 0 ∨ k = 1 ∨ k = 2 ∨ k = 3 ∨ k = 4 := by omega
    rcases hc with rfl | rfl | rfl | rfl | rfl
    · exact q_1 hk
    · exact q_2 hk
    · exact q_3 hk
    · exact q_4 hk
    · exact q_5 hk
  refine lv_iconst (v := (-1)) hx hb dX11_look_76 (by decide) ?_
  have hK9 := hK.sub (tys' := []) [] rfl
  have hP9 := hP.sub (ws' := []) [] rfl
  have hD9 := hD.sub (ws' := []) [] (by decide) rfl
  exact W.iret (v := (-1)) hx hb hr (fun t ht hW => ⟨⟨(-1), (), rfl, (by simp [sp_look, q_1, q_2, q_3, q_4, q_5]), by rw [ht]; exact hP9, va_K.moved hW.alike hK9, hD9⟩, hS.F ht⟩) hS.2.2 dX11_look_77
def wk_end : List Cond := .code yX11_end cX11_end 2 (some .boolean) :: ([.fieldLink RX11 27 "PutBack" "reader" "LPutBack$Reader;", .fieldLink RX11 53 "PutBack$Reader" "length" "I"] ++ wsX40 ++ wsX110)
theorem ik_end_RX4 : ∀ w ∈ u_ws RX4 TX4 14, w ∈ wk_end := fun w h => List.mem_cons_of_mem _ (List.mem_append_left _ (List.mem_append_right _ h))
theorem ik_end_RX11 : ∀ w ∈ u_ws RX11 TX11 6, w ∈ wk_end := fun w h => List.mem_cons_of_mem _ (List.mem_append_right _ h)
set_option maxHeartbeats 4000000 in
set_option maxRecDepth 100000 in
theorem k_end (l : Launch) (dC : Nat → ClassId) (dI : Nat → Nat → Nat) (sz : Nat) (h0 : Nat) (v1 : Int32) (sl : Nat) (walker_ : Nat) (rd : Nat) (machine_ : Nat) (trial_ : Nat) (dk : Nat) (lenses_ : Nat) (tp : Nat) (names_ : Nat) (quoted_ : Nat) (links_ : Nat) (walker2_ : Nat) : Met l yX11_end wk_end ({ frames := 0, cells := 0, slots := 0, locals := 0 } : Room) (va_Pc [.ref h0, .int v1] (fun U => U.heap.size = sz ∧ va_P (dC, dI) cls [(h0, .inr (11, [.ref sl, .ref walker_, .ref rd, .ref machine_, .ref trial_, .ref dk])), (rd, .inr (4, [.ref lenses_, .int 0, .int 0, .int 0, .int (-1), .int (-1), .ref tp, .ref names_, .ref quoted_, .ref links_, .ref walker2_, .int 0, .int 0, .int 0]))] U.heap ∧ va_K (dC, dI) cls [] U ∧ va_D (fun _ => True) [(h0, .inr (11, [.ref sl, .ref walker_, .ref rd, .ref machine_, .ref trial_, .ref dk])), (rd, .inr (4, [.ref lenses_, .int 0, .int 0, .int 0, .int (-1), .int (-1), .ref tp, .ref names_, .ref quoted_, .ref links_, .ref walker2_, .int 0, .int 0, .int 0]))])) (va_Qi (fun (r : Int32) (_ : Unit) => r = sp_end v1) (fun (_ : Unit) t => va_P (dC, dI) cls [] t.heap ∧ va_K (dC, dI) cls [] t ∧ va_D (va_A [(h0, .inr (11, [.ref sl, .ref walker_, .ref rd, .ref machine_, .ref trial_, .ref dk])), (rd, .inr (4, [.ref lenses_, .int 0, .int 0, .int 0, .int (-1), .int (-1), .ref tp, .ref names_, .ref quoted_, .ref links_, .ref walker2_, .int 0, .int 0, .int 0]))] sz) []) (va_A [(h0, .inr (11, [.ref sl, .ref walker_, .ref rd, .ref machine_, .ref trial_, .ref dk])), (rd, .inr (4, [.ref lenses_, .int 0, .int 0, .int 0, .int (-1), .int (-1), .ref tp, .ref names_, .ref quoted_, .ref links_, .ref walker2_, .int 0, .int 0, .int 0]))] sz)) 0 0 (va_A [(h0, .inr (11, [.ref sl, .ref walker_, .ref rd, .ref machine_, .ref trial_, .ref dk])), (rd, .inr (4, [.ref lenses_, .int 0, .int 0, .int 0, .int (-1), .int (-1), .ref tp, .ref names_, .ref quoted_, .ref links_, .ref walker2_, .int 0, .int 0, .int 0]))] sz) := by
  refine Met.ofW (cc := cX11_end) (maxL := 2) (ret := (some .boolean)) (by decide) rfl ?_
  intro p e s m args below meth c s₁ B hml hv
  obtain ⟨rfl, hsz, hP, hK, hD0⟩ := hv
  have hx := B.exec
  have hb := B.bytes
  have hr := B.returns
  have hts := atoms_spec (ws := wk_end) B.pre
  have hown : s.vm.findClass RX11 = some m.cls := findClass_of_methodNamed B.named
  have hlocks := B.notSynchronized
  subst hsz
  have hD := hD0.self (sz := s.heap.size)
  generalize hAe : va_A [(h0, .inr (11, [.ref sl, .ref walker_, .ref rd, .ref machine_, .ref trial_, .ref dk])), (rd, .inr (4, [.ref lenses_, .int 0, .int 0, .int 0, .int (-1), .int (-1), .ref tp, .ref names_, .ref quoted_, .ref links_, .ref walker2_, .int 0, .int 0, .int 0]))] s.heap.size = A at hD ⊢
  have hA : ∀ q : Nat, s.heap.size ≤ q → A q := fun q h => by rw [← hAe]; exact Or.inr h
  have hP : va_P (dC, dI) cls [(h0, .inr (11, [.ref sl, .ref walker_, .ref rd, .ref machine_, .ref trial_, .ref dk])), (rd, .inr (4, [.ref lenses_, .int 0, .int 0, .int 0, .int (-1), .int (-1), .ref tp, .ref names_, .ref quoted_, .ref links_, .ref walker2_, .int 0, .int 0, .int 0]))] s.heap := hP
  have hl := lv_entry ([.ref h0, .int v1]) (n := 2) (Nat.le_of_ble_eq_true rfl)
  rw [lg_entry_eq]
  generalize (lg_sl ([.ref h0, .int v1]) ++ List.replicate (2 - (lg_sl ([.ref h0, .int v1])).length) Slot.unset).toArray = ls at hl ⊢
  have hl : lv_has ls 2 [(0, .ref h0), (1, .int v1)] := hl
  obtain ⟨H, hH⟩ : ∃ H : Heap, s.heap = H := ⟨_, rfl⟩
  rw [hH] at hP ⊢
  have hS : va_S A s.heap H [] := by rw [← hH]; exact va_S.rf
  refine lv_iload_n hx hb dX11_end_0 rfl (lv_at hl 1 rfl) ?_
  refine lv_if_lt (tgt := 15) hx hb dX11_end_1 (by decide) (fun c_1 => ?_) (fun c_1 => ?_)
  · skip
    refine lv_iconst (v := 0) hx hb dX11_end_15 (by decide) ?_
    have hK9 := hK.sub (tys' := []) [] rfl
    have hP9 := hP.sub (ws' := []) [] rfl
    have hD9 := hD.sub (ws' := []) [] (by decide) rfl
    exact W.zret (v := 0) (ty := .boolean) hx hb hr rfl (fun t ht hW => ⟨⟨0, (), rfl, zE4 c_1, by rw [ht]; exact hP9, va_K.moved hW.alike hK9, hD9⟩, hS.F ht⟩) hS.2.2 dX11_end_16
  · skip
    refine lv_iload_n hx hb dX11_end_4 rfl (lv_at hl 1 rfl) ?_
    refine lv_aload_n hx hb dX11_end_5 rfl (lv_at hl 0 rfl) ?_
    refine va_get (D := (dC, dI)) (ci := 11) (v := .ref rd) (C := RX11) (T := TX11) (N := 6) hx hb hts ik_end_RX11 hown hK hP 0 rfl rfl 2 (by decide) (hts (.fieldLink RX11 27 "PutBack" "reader" "LPutBack$Reader;") (by decide +kernel)) (fun _ h9 => h9) rfl dX11_end_6 ?_
    refine va_get (D := (dC, dI)) (ci := 4) (v := .int 0) (C := RX4) (T := TX4) (N := 14) hx hb hts ik_end_RX4 hown hK hP 1 rfl rfl 2 (by decide) (hts (.fieldLink RX11 53 "PutBack$Reader" "length" "I") (by decide +kernel)) (fun _ h9 => h9) rfl dX11_end_9 ?_
    refine lv_icmp_le (tgt := 17) hx hb dX11_end_12 (by decide) (fun c_2 => ?_) (fun c_2 => ?_)
    · skip
      refine lv_aload_n hx hb dX11_end_17 rfl (lv_at hl 0 rfl) ?_
      refine va_get (D := (dC, dI)) (ci := 11) (v := .ref rd) (C := RX11) (T := TX11) (N := 6) hx hb hts ik_end_RX11 hown hK hP 0 rfl rfl 2 (by decide) (hts (.fieldLink RX11 27 "PutBack" "reader" "LPutBack$Reader;") (by decide +kernel)) (fun _ h9 => h9) rfl dX11_end_18 ?_
      refine lv_iload_n hx hb dX11_end_21 rfl (lv_at hl 1 rfl) ?_
      refine va_put (D := (dC, dI)) (ci := 4) (v := .int v1) (ty := .int) (C := RX4) (T := TX4) (N := 14) hx hb hts ik_end_RX4 tyX4 tyX4_ok nmX4 hown hK hP hD hS 1 rfl rfl 2 (by decide) (hts (.fieldLink RX11 53 "PutBack$Reader" "length" "I") (by decide +kernel)) (fun _ h9 => h9) rfl (by decide +kernel) rfl rfl (Nat.le_of_ble_eq_true rfl) dX11_end_22 (fun H locs hP hD hS => ?_)
      have hP : va_P (dC, dI) cls [(h0, .inr (11, [.ref sl, .ref walker_, .ref rd, .ref machine_, .ref trial_, .ref dk])), (rd, .inr (4, [.ref lenses_, .int 0, .int v1, .int 0, .int (-1), .int (-1), .ref tp, .ref names_, .ref quoted_, .ref links_, .ref walker2_, .int 0, .int 0, .int 0]))] H := hP
      have hD : va_D A [(h0, .inr (11, [.ref sl, .ref walker_, .ref rd, .ref machine_, .ref trial_, .ref dk])), (rd, .inr (4, [.ref lenses_, .int 0, .int v1, .int 0, .int (-1), .int (-1), .ref tp, .ref names_, .ref quoted_, .ref links_, .ref walker2_, .int 0, .int 0, .int 0]))] := hD
      refine lv_iconst (v := 1) hx hb dX11_end_25 (by decide) ?_
      have hK9 := hK.sub (tys' := []) [] rfl
      have hP9 := hP.sub (ws' := []) [] rfl
      have hD9 := hD.sub (ws' := []) [] (by decide) rfl
      exact W.zret (v := 1) (ty := .boolean) hx hb hr rfl (fun t ht hW => ⟨⟨1, (), rfl, zE3 c_1 (Int32.not_lt.mpr c_2), by rw [ht]; exact hP9, va_K.moved hW.alike hK9, hD9⟩, hS.F ht⟩) hS.2.2 dX11_end_26
    · skip
      refine lv_iconst (v := 0) hx hb dX11_end_15 (by decide) ?_
      have hK9 := hK.sub (tys' := []) [] rfl
      have hP9 := hP.sub (ws' := []) [] rfl
      have hD9 := hD.sub (ws' := []) [] (by decide) rfl
      exact W.zret (v := 0) (ty := .boolean) hx hb hr rfl (fun t ht hW => ⟨⟨0, (), rfl, zE5 (Int32.not_le.mp c_2), by rw [ht]; exact hP9, va_K.moved hW.alike hK9, hD9⟩, hS.F ht⟩) hS.2.2 dX11_end_16
