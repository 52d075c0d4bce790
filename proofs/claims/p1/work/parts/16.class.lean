
theorem zSame {α : Type} {ws : List α} {k : Nat} {x : α} (h : ws[k]? = some x) : ws.set k x = ws := by
  obtain ⟨hk, rfl⟩ := List.getElem?_eq_some_iff.mp h
  exact List.set_getElem_self hk
theorem zFree {A0 : Nat → Prop} {ws : va_W} {H0 H : Heap} {locs : List Loc} (hD : va_D A0 ws) (hS : va_S A0 H0 H locs) (hA : ∀ q, H0.size ≤ q → A0 q) : ∀ q, va_A ws H.size q → A0 q := by
  intro q h
  rcases h with ⟨k, e, h⟩ | h
  · exact hD.2 k (q, e) h
  · exact hA q (Nat.le_trans hS.1 h)
theorem zCpy {α : Type} (f g : Nat → α) : va_cpy f g (0 : Int32).toNatClampNeg (0 : Int32).toNatClampNeg (0 : Int32).toNatClampNeg = g := by
  funext k
  have e : (0 : Int32).toNatClampNeg = 0 := by decide
  simp [va_cpy, e]
theorem zUpd (k : Nat) : upd (fun _ => 0) k 0 = (fun _ => 0 : Nat → Int32) := by
  funext j
  simp [upd]
theorem zR1 {x y : Int32} (h1 : ¬ x < 0) (h2 : ¬ y < 0) (h3 : ¬ x > 0) (h4 : ¬ y > 0 - x) : x = 0 ∧ y = 0 := by
  have e : x = 0 := zEq h1 h3
  subst e
  exact ⟨rfl, zEq h2 h4⟩
def ws_slotAt : List Cond := .code yX11_slotAt cX11_slotAt 2 (some (.object "PutBack$Text")) :: ([.fieldLink RX11 11 "PutBack" "slots" "[LPutBack$Text;"] ++ wsX110)
theorem is_slotAt_RX11 : ∀ w ∈ u_ws RX11 TX11 6, w ∈ ws_slotAt := fun w h => List.mem_cons_of_mem _ (List.mem_append_right _ h)
set_option maxHeartbeats 4000000 in
set_option maxRecDepth 100000 in
theorem s_slotAt (l : Launch) (dC : Nat → ClassId) (dI : Nat → Nat → Nat) (sz : Nat) (h0 : Nat) (v1 : Int32) (sl : Nat) (walker_ : Nat) (rd : Nat) (machine_ : Nat) (trial_ : Nat) (dk : Nat) (cT : ClassId) (fT : Nat → Option Nat)  (ws : va_W) (tl : List (ClassId × FieldType)) (k0 : Nat) (he0 : ws[k0]? = some (h0, .inr (11, [.ref sl, .ref walker_, .ref rd, .ref machine_, .ref trial_, .ref dk]))) (k1 : Nat) (he1 : ws[k1]? = some (sl, .inl (cT, 8, .inr (.inr (.inr (.inr fT)))))) (t0 : Nat) (ht0 : tl[t0]? = some (cT, .object RX6)) (hf : ∀ i : Int32, inS i → ∃ t, fT i.toNatClampNeg = some t) : Met l yX11_slotAt ws_slotAt ({ frames := 0, cells := 0, slots := 0, locals := 0 } : Room) (va_Pc [.ref h0, .int v1] (fun U => U.heap.size = sz ∧ va_P (dC, dI) cls ws U.heap ∧ va_K (dC, dI) cls tl U ∧ va_D (fun _ => True) ws)) (va_Qq (fun (r : Option Nat) (_ : Unit) => (inS v1 ∧ r = fT v1.toNatClampNeg) ∨ (¬ inS v1 ∧ r = none)) (fun (_ : Unit) t => va_P (dC, dI) cls ws t.heap ∧ va_K (dC, dI) cls tl t ∧ va_D (va_A ws sz) ws) (va_A ws sz)) 0 0 (va_A ws sz) := by
  refine Met.ofW (cc := cX11_slotAt) (maxL := 2) (ret := (some (.object "PutBack$Text"))) (by decide) rfl ?_
  intro p e s m args below meth c s₁ B hml hv
  obtain ⟨rfl, hsz, hP, hK, hD0⟩ := hv
  have hx := B.exec
  have hb := B.bytes
  have hr := B.returns
  have hts := atoms_spec (ws := ws_slotAt) B.pre
  have hown : s.vm.findClass RX11 = some m.cls := findClass_of_methodNamed B.named
  have hlocks := B.notSynchronized
  subst hsz
  have hD := hD0.self (sz := s.heap.size)
  generalize hAe : va_A ws s.heap.size = A at hD ⊢
  have hA : ∀ q : Nat, s.heap.size ≤ q → A q := fun q h => by rw [← hAe]; exact Or.inr h
  have hP : va_P (dC, dI) cls ws s.heap := hP
  have hl := lv_entry ([.ref h0, .int v1]) (n := 2) (Nat.le_of_ble_eq_true rfl)
  rw [lg_entry_eq]
  generalize (lg_sl ([.ref h0, .int v1]) ++ List.replicate (2 - (lg_sl ([.ref h0, .int v1])).length) Slot.unset).toArray = ls at hl ⊢
  have hl : lv_has ls 2 [(0, .ref h0), (1, .int v1)] := hl
  obtain ⟨H, hH⟩ : ∃ H : Heap, s.heap = H := ⟨_, rfl⟩
  rw [hH] at hP ⊢
  have hS : va_S A s.heap H [] := by rw [← hH]; exact va_S.rf
  refine lv_iload_n hx hb dX11_slotAt_0 rfl (lv_at hl 1 rfl) ?_
  refine lv_if_lt (tgt := 19) hx hb dX11_slotAt_1 (by decide) (fun c_1 => ?_) (fun c_1 => ?_)
  · skip
    refine lv_null hx hb dX11_slotAt_19 ?_
    have hP9 := hP
    have hD9 := hD
    have hK9 := hK
    exact W.aret (v := .null) hx hb hr (by first | exact Or.inl ⟨_, rfl⟩ | exact Or.inr ⟨_, rfl⟩) (Or.inl rfl) (fun t ht hW => ⟨⟨none, (), rfl, Or.inr ⟨zS4 c_1, rfl⟩, by rw [ht]; exact hP9, va_K.moved hW.alike hK9, hD9⟩, hS.F ht⟩) hS.2.2 dX11_slotAt_20
  · skip
    refine lv_iload_n hx hb dX11_slotAt_4 rfl (lv_at hl 1 rfl) ?_
    refine lv_bipush (v := 8) hx hb dX11_slotAt_5 (by decide) ?_
    refine lv_icmp_ge (tgt := 19) hx hb dX11_slotAt_7 (by decide) (fun c_2 => ?_) (fun c_2 => ?_)
    · skip
      refine lv_null hx hb dX11_slotAt_19 ?_
      have hP9 := hP
      have hD9 := hD
      have hK9 := hK
      exact W.aret (v := .null) hx hb hr (by first | exact Or.inl ⟨_, rfl⟩ | exact Or.inr ⟨_, rfl⟩) (Or.inl rfl) (fun t ht hW => ⟨⟨none, (), rfl, Or.inr ⟨zS5 c_2, rfl⟩, by rw [ht]; exact hP9, va_K.moved hW.alike hK9, hD9⟩, hS.F ht⟩) hS.2.2 dX11_slotAt_20
    · skip
      have f_3 : inS v1 := zS3 c_1 c_2
      refine lv_aload_n hx hb dX11_slotAt_10 rfl (lv_at hl 0 rfl) ?_
      refine va_get (D := (dC, dI)) (ci := 11) (v := .ref sl) (C := RX11) (T := TX11) (N := 6) hx hb hts is_slotAt_RX11 hown hK hP k0 he0 rfl 0 (by decide) (hts (.fieldLink RX11 11 "PutBack" "slots" "[LPutBack$Text;") (by decide +kernel)) (fun _ h9 => h9) rfl dX11_slotAt_11 ?_
      refine lv_iload_n hx hb dX11_slotAt_14 rfl (lv_at hl 1 rfl) ?_
      refine va_aldq hx hb hK hP k1 t0 he1 ht0 (zVp f_3) dX11_slotAt_15 ?_
      obtain ⟨t_4, et_4⟩ := hf v1 f_3
      refine W.eq (g2 := F0 m 16 ls [.ref t_4]) (by rw [et_4]; rfl) ?_
      refine lv_goto (tgt := 20) hx hb dX11_slotAt_16 (by decide) ?_
      have hP9 := hP
      have hD9 := hD
      have hK9 := hK
      exact W.aret (v := .ref t_4) hx hb hr (by first | exact Or.inl ⟨_, rfl⟩ | exact Or.inr ⟨_, rfl⟩) (Or.inr ⟨_, rfl⟩) (fun t ht hW => ⟨⟨some t_4, (), rfl, Or.inl ⟨f_3, et_4.symm⟩, by rw [ht]; exact hP9, va_K.moved hW.alike hK9, hD9⟩, hS.F ht⟩) hS.2.2 dX11_slotAt_20
def ws_isText : List Cond := .code yX4_isText cX4_isText 3 (some .boolean) :: ([.fieldLink RX4 43 "PutBack$Reader" "length" "I"] ++ wsX40)
theorem is_isText_RX4 : ∀ w ∈ u_ws RX4 TX4 14, w ∈ ws_isText := fun w h => List.mem_cons_of_mem _ (List.mem_append_right _ h)
set_option maxHeartbeats 4000000 in
set_option maxRecDepth 100000 in
theorem s_isText (l : Launch) (dC : Nat → ClassId) (dI : Nat → Nat → Nat) (sz : Nat) (rd : Nat) (lenses_ : Nat) (tp : Nat) (names_ : Nat) (quoted_ : Nat) (links_ : Nat) (walker2_ : Nat) (ws : va_W) (tl : List (ClassId × FieldType)) (k0 : Nat) (he0 : ws[k0]? = some (rd, .inr (4, [.ref lenses_, .int 0, .int 0, .int 0, .int (-1), .int (-1), .ref tp, .ref names_, .ref quoted_, .ref links_, .ref walker2_, .int 0, .int 0, .int 0])))  : Met l yX4_isText ws_isText ({ frames := 0, cells := 0, slots := 0, locals := 0 } : Room) (va_Pc [.ref rd] (fun U => U.heap.size = sz ∧ va_P (dC, dI) cls ws U.heap ∧ va_K (dC, dI) cls tl U ∧ va_D (fun _ => True) ws)) (va_Qi (fun (r : Int32) (_ : Unit) => r = 1) (fun (_ : Unit) t => va_P (dC, dI) cls ws t.heap ∧ va_K (dC, dI) cls tl t ∧ va_D (va_A ws sz) ws) (va_A ws sz)) 0 0 (va_A ws sz) := by
  refine Met.ofW (cc := cX4_isText) (maxL := 3) (ret := (some .boolean)) (by decide) rfl ?_
  intro p e s m args below meth c s₁ B hml hv
  obtain ⟨rfl, hsz, hP, hK, hD0⟩ := hv
  have hx := B.exec
  have hb := B.bytes
  have hr := B.returns
  have hts := atoms_spec (ws := ws_isText) B.pre
  have hown : s.vm.findClass RX4 = some m.cls := findClass_of_methodNamed B.named
  have hlocks := B.notSynchronized
  subst hsz
  have hD := hD0.self (sz := s.heap.size)
  generalize hAe : va_A ws s.heap.size = A at hD ⊢
  have hA : ∀ q : Nat, s.heap.size ≤ q → A q := fun q h => by rw [← hAe]; exact Or.inr h
  have hP : va_P (dC, dI) cls ws s.heap := hP
  have hl := lv_entry ([.ref rd]) (n := 3) (Nat.le_of_ble_eq_true rfl)
  rw [lg_entry_eq]
  generalize (lg_sl ([.ref rd]) ++ List.replicate (3 - (lg_sl ([.ref rd])).length) Slot.unset).toArray = ls at hl ⊢
  have hl : lv_has ls 3 [(0, .ref rd)] := hl
  obtain ⟨H, hH⟩ : ∃ H : Heap, s.heap = H := ⟨_, rfl⟩
  rw [hH] at hP ⊢
  have hS : va_S A s.heap H [] := by rw [← hH]; exact va_S.rf
  refine lv_aload_n hx hb dX4_isText_0 rfl (lv_at hl 0 rfl) ?_
  refine va_get (D := (dC, dI)) (ci := 4) (v := .int 0) (C := RX4) (T := TX4) (N := 14) hx hb hts is_isText_RX4 hown hK hP k0 he0 rfl 2 (by decide) (hts (.fieldLink RX4 43 "PutBack$Reader" "length" "I") (by decide +kernel)) (fun _ h9 => h9) rfl dX4_isText_1 ?_
  refine lv_bipush (v := 60) hx hb dX4_isText_4 (by decide) ?_
  refine lv_icmp_gt (tgt := 13) hx hb dX4_isText_6 (by decide) (fun c_1 => ?_) (fun c_1 => ?_)
  · exact (by revert c_1; decide : False).elim
  refine lv_iconst (v := 1) hx hb dX4_isText_9 (by decide) ?_
  refine lv_goto (tgt := 14) hx hb dX4_isText_10 (by decide) ?_
  refine lv_istore_n (lv' := [(1, .int 1), (0, .ref rd)]) hx hb dX4_isText_14 rfl hl (by decide) rfl (fun ls hl => ?_)
  refine lv_iconst (v := 0) hx hb dX4_isText_15 (by decide) ?_
  refine lv_istore_n (lv' := [(2, .int 0), (1, .int 1), (0, .ref rd)]) hx hb dX4_isText_16 rfl hl (by decide) rfl (fun ls hl => ?_)
  refine lv_iload_n hx hb dX4_isText_17 rfl (lv_at hl 0 rfl) ?_
  refine lv_aload_n hx hb dX4_isText_18 rfl (lv_at hl 2 rfl) ?_
  refine va_get (D := (dC, dI)) (ci := 4) (v := .int 0) (C := RX4) (T := TX4) (N := 14) hx hb hts is_isText_RX4 hown hK hP k0 he0 rfl 2 (by decide) (hts (.fieldLink RX4 43 "PutBack$Reader" "length" "I") (by decide +kernel)) (fun _ h9 => h9) rfl dX4_isText_19 ?_
  refine lv_icmp_ge (tgt := 54) hx hb dX4_isText_22 (by decide) (fun c_2 => ?_) (fun c_2 => ?_)
  rotate_left
  · exact (by revert c_2; decide : False).elim
  refine lv_iload_n hx hb dX4_isText_54 rfl (lv_at hl 1 rfl) ?_
  have hP9 := hP
  have hD9 := hD
  have hK9 := hK
  exact W.zret (v := 1) (ty := .boolean) hx hb hr rfl (fun t ht hW => ⟨⟨1, (), rfl, rfl, by rw [ht]; exact hP9, va_K.moved hW.alike hK9, hD9⟩, hS.F ht⟩) hS.2.2 dX4_isText_55
def ws_spellInto : List Cond := .code yX4_spellInto cX4_spellInto 3 none :: ([.fieldLink RX4 43 "PutBack$Reader" "length" "I", .methodLink RX4 50 Lib.Math.min.name, .static Lib.Math.min.name, .initialized "java/lang/Math", .code Lib.Math.min.name Lib.Math.min.code 2 (some .int), .fieldLink RX4 56 "PutBack$Text" "length" "I"] ++ wsX40 ++ wsX60)
theorem is_spellInto_RX4 : ∀ w ∈ u_ws RX4 TX4 14, w ∈ ws_spellInto := fun w h => List.mem_cons_of_mem _ (List.mem_append_left _ (List.mem_append_right _ h))
theorem is_spellInto_RX6 : ∀ w ∈ u_ws RX6 TX6 2, w ∈ ws_spellInto := fun w h => List.mem_cons_of_mem _ (List.mem_append_right _ h)
set_option maxHeartbeats 4000000 in
set_option maxRecDepth 100000 in
theorem s_spellInto (l : Launch) (dC : Nat → ClassId) (dI : Nat → Nat → Nat) (sz : Nat) (rd : Nat) (tx1 : Nat) (lenses_ : Nat) (tp : Nat) (names_ : Nat) (quoted_ : Nat) (links_ : Nat) (walker2_ : Nat) (r1 : Nat) (ws : va_W) (tl : List (ClassId × FieldType)) (k0 : Nat) (he0 : ws[k0]? = some (rd, .inr (4, [.ref lenses_, .int 0, .int 0, .int 0, .int (-1), .int (-1), .ref tp, .ref names_, .ref quoted_, .ref links_, .ref walker2_, .int 0, .int 0, .int 0]))) (k1 : Nat) (he1 : ws[k1]? = some (tx1, .inr (6, [.ref r1, .int 0])))  : Met l yX4_spellInto ws_spellInto ({ frames := 1, cells := 0, slots := 0, locals := 40 } : Room) (va_Pc [.ref rd, .ref tx1] (fun U => U.heap.size = sz ∧ va_P (dC, dI) cls ws U.heap ∧ va_K (dC, dI) cls tl U ∧ va_D (fun _ => True) ws)) (va_Qv (fun _ : Unit => True) (fun (_ : Unit) t => va_P (dC, dI) cls ws t.heap ∧ va_K (dC, dI) cls tl t ∧ va_D (va_A ws sz) ws) (va_A ws sz)) 0 0 (va_A ws sz) := by
  refine Met.ofW (cc := cX4_spellInto) (maxL := 3) (ret := none) (by decide) rfl ?_
  intro p e s m args below meth c s₁ B hml hv
  obtain ⟨rfl, hsz, hP, hK, hD0⟩ := hv
  have hx := B.exec
  have hb := B.bytes
  have hr := B.returns
  have hts := atoms_spec (ws := ws_spellInto) B.pre
  have hown : s.vm.findClass RX4 = some m.cls := findClass_of_methodNamed B.named
  have hlocks := B.notSynchronized
  subst hsz
  have hD := hD0.self (sz := s.heap.size)
  generalize hAe : va_A ws s.heap.size = A at hD ⊢
  have hA : ∀ q : Nat, s.heap.size ≤ q → A q := fun q h => by rw [← hAe]; exact Or.inr h
  have hP : va_P (dC, dI) cls ws s.heap := hP
  have hl := lv_entry ([.ref rd, .ref tx1]) (n := 3) (Nat.le_of_ble_eq_true rfl)
  rw [lg_entry_eq]
  generalize (lg_sl ([.ref rd, .ref tx1]) ++ List.replicate (3 - (lg_sl ([.ref rd, .ref tx1])).length) Slot.unset).toArray = ls at hl ⊢
  have hl : lv_has ls 3 [(0, .ref rd), (1, .ref tx1)] := hl
  obtain ⟨H, hH⟩ : ∃ H : Heap, s.heap = H := ⟨_, rfl⟩
  rw [hH] at hP ⊢
  have hS : va_S A s.heap H [] := by rw [← hH]; exact va_S.rf
  refine lv_aload_n hx hb dX4_spellInto_0 rfl (lv_at hl 1 rfl) ?_
  refine lv_aload_n hx hb dX4_spellInto_1 rfl (lv_at hl 0 rfl) ?_
  refine va_get (D := (dC, dI)) (ci := 4) (v := .int 0) (C := RX4) (T := TX4) (N := 14) hx hb hts is_spellInto_RX4 hown hK hP k0 he0 rfl 2 (by decide) (hts (.fieldLink RX4 43 "PutBack$Reader" "length" "I") (by decide +kernel)) (fun _ h9 => h9) rfl dX4_spellInto_2 ?_
  refine lv_bipush (v := 60) hx hb dX4_spellInto_5 (by decide) ?_
  refine va_mmin hx hb (hml.trans hl.1.symm) hown (hts (.methodLink RX4 50 Lib.Math.min.name) (by decide +kernel)) (hts (.static Lib.Math.min.name) (by decide +kernel)) (hts (.initialized "java/lang/Math") (by decide +kernel)) (hts (.code Lib.Math.min.name Lib.Math.min.code 2 (some .int)) (by decide +kernel)) (Nat.le_of_ble_eq_true rfl) (Nat.le_of_ble_eq_true rfl) (Nat.le_of_ble_eq_true rfl) (Nat.le_of_ble_eq_true rfl) dX4_spellInto_7 ?_
  refine lv_topi (fun z_1 ez_1 => ?_)
  obtain rfl : z_1 = (0 : Int32) := ez_1.trans (by decide)
  refine va_put (D := (dC, dI)) (ci := 6) (v := .int 0) (ty := .int) (C := RX6) (T := TX6) (N := 2) hx hb hts is_spellInto_RX6 tyX6 tyX6_ok nmX6 hown hK hP hD hS k1 he1 rfl 1 (by decide) (hts (.fieldLink RX4 56 "PutBack$Text" "length" "I") (by decide +kernel)) (fun _ h9 => h9) rfl (by decide +kernel) rfl rfl (Nat.le_of_ble_eq_true rfl) dX4_spellInto_10 (fun H locs hP _ hS => ?_)
  have hP : va_P (dC, dI) cls ws H := by rw [← zSame he1]; exact hP
  refine lv_iconst (v := 0) hx hb dX4_spellInto_13 (by decide) ?_
  refine lv_istore_n (lv' := [(2, .int 0), (0, .ref rd), (1, .ref tx1)]) hx hb dX4_spellInto_14 rfl hl (by decide) rfl (fun ls hl => ?_)
  refine lv_iload_n hx hb dX4_spellInto_15 rfl (lv_at hl 0 rfl) ?_
  refine lv_aload_n hx hb dX4_spellInto_16 rfl (lv_at hl 2 rfl) ?_
  refine va_get (D := (dC, dI)) (ci := 6) (v := .int 0) (C := RX6) (T := TX6) (N := 2) hx hb hts is_spellInto_RX6 hown hK hP k1 he1 rfl 1 (by decide) (hts (.fieldLink RX4 56 "PutBack$Text" "length" "I") (by decide +kernel)) (fun _ h9 => h9) rfl dX4_spellInto_17 ?_
  refine lv_icmp_ge (tgt := 45) hx hb dX4_spellInto_20 (by decide) (fun c_2 => ?_) (fun c_2 => ?_)
  rotate_left
  · exact (by revert c_2; decide : False).elim
  have hP9 := hP
  have hD9 := hD
  have hK9 := hK
  exact W.vret hx hb hr (fun t ht hW => ⟨⟨(), rfl, trivial, by rw [ht]; exact hP9, va_K.moved hW.alike hK9, hD9⟩, hS.F ht⟩) hS.2.2 dX4_spellInto_45
def ws_reaches : List Cond := .code yX6_reaches cX6_reaches 3 (some .boolean) :: ([.fieldLink RX6 21 "PutBack$Text" "length" "I"] ++ wsX60)
theorem is_reaches_RX6 : ∀ w ∈ u_ws RX6 TX6 2, w ∈ ws_reaches := fun w h => List.mem_cons_of_mem _ (List.mem_append_right _ h)
set_option maxHeartbeats 4000000 in
set_option maxRecDepth 100000 in
theorem s_reaches (l : Launch) (dC : Nat → ClassId) (dI : Nat → Nat → Nat) (sz : Nat) (tx1 : Nat) (v1 : Int32) (v2 : Int32) (r1 : Nat) (ws : va_W) (tl : List (ClassId × FieldType)) (k0 : Nat) (he0 : ws[k0]? = some (tx1, .inr (6, [.ref r1, .int 0])))  : Met l yX6_reaches ws_reaches ({ frames := 0, cells := 0, slots := 0, locals := 0 } : Room) (va_Pc [.ref tx1, .int v1, .int v2] (fun U => U.heap.size = sz ∧ va_P (dC, dI) cls ws U.heap ∧ va_K (dC, dI) cls tl U ∧ va_D (fun _ => True) ws)) (va_Qi (fun (r : Int32) (_ : Unit) => (r = 1 ∧ (v1 = 0 ∧ v2 = 0)) ∨ (r = 0 ∧ ¬ (v1 = 0 ∧ v2 = 0))) (fun (_ : Unit) t => va_P (dC, dI) cls ws t.heap ∧ va_K (dC, dI) cls tl t ∧ va_D (va_A ws sz) ws) (va_A ws sz)) 0 0 (va_A ws sz) := by
  refine Met.ofW (cc := cX6_reaches) (maxL := 3) (ret := (some .boolean)) (by decide) rfl ?_
  intro p e s m args below meth c s₁ B hml hv
  obtain ⟨rfl, hsz, hP, hK, hD0⟩ := hv
  have hx := B.exec
  have hb := B.bytes
  have hr := B.returns
  have hts := atoms_spec (ws := ws_reaches) B.pre
  have hown : s.vm.findClass RX6 = some m.cls := findClass_of_methodNamed B.named
  have hlocks := B.notSynchronized
  subst hsz
  have hD := hD0.self (sz := s.heap.size)
  generalize hAe : va_A ws s.heap.size = A at hD ⊢
  have hA : ∀ q : Nat, s.heap.size ≤ q → A q := fun q h => by rw [← hAe]; exact Or.inr h
  have hP : va_P (dC, dI) cls ws s.heap := hP
  have hl := lv_entry ([.ref tx1, .int v1, .int v2]) (n := 3) (Nat.le_of_ble_eq_true rfl)
  rw [lg_entry_eq]
  generalize (lg_sl ([.ref tx1, .int v1, .int v2]) ++ List.replicate (3 - (lg_sl ([.ref tx1, .int v1, .int v2])).length) Slot.unset).toArray = ls at hl ⊢
  have hl : lv_has ls 3 [(0, .ref tx1), (1, .int v1), (2, .int v2)] := hl
  obtain ⟨H, hH⟩ : ∃ H : Heap, s.heap = H := ⟨_, rfl⟩
  rw [hH] at hP ⊢
  have hS : va_S A s.heap H [] := by rw [← hH]; exact va_S.rf
  refine lv_iload_n hx hb dX6_reaches_0 rfl (lv_at hl 1 rfl) ?_
  refine lv_if_lt (tgt := 30) hx hb dX6_reaches_1 (by decide) (fun c_1 => ?_) (fun c_1 => ?_)
  · skip
    refine lv_iconst (v := 0) hx hb dX6_reaches_30 (by decide) ?_
    have hP9 := hP
    have hD9 := hD
    have hK9 := hK
    exact W.zret (v := 0) (ty := .boolean) hx hb hr rfl (fun t ht hW => ⟨⟨0, (), rfl, Or.inr ⟨rfl, fun h => by obtain ⟨h1, h2⟩ := h; subst h1; subst h2; revert c_1; decide⟩, by rw [ht]; exact hP9, va_K.moved hW.alike hK9, hD9⟩, hS.F ht⟩) hS.2.2 dX6_reaches_31
  · skip
    refine lv_iload_n hx hb dX6_reaches_4 rfl (lv_at hl 2 rfl) ?_
    refine lv_if_lt (tgt := 30) hx hb dX6_reaches_5 (by decide) (fun c_2 => ?_) (fun c_2 => ?_)
    · skip
      refine lv_iconst (v := 0) hx hb dX6_reaches_30 (by decide) ?_
      have hP9 := hP
      have hD9 := hD
      have hK9 := hK
      exact W.zret (v := 0) (ty := .boolean) hx hb hr rfl (fun t ht hW => ⟨⟨0, (), rfl, Or.inr ⟨rfl, fun h => by obtain ⟨h1, h2⟩ := h; subst h1; subst h2; revert c_2; decide⟩, by rw [ht]; exact hP9, va_K.moved hW.alike hK9, hD9⟩, hS.F ht⟩) hS.2.2 dX6_reaches_31
    · skip
      refine lv_iload_n hx hb dX6_reaches_8 rfl (lv_at hl 1 rfl) ?_
      refine lv_aload_n hx hb dX6_reaches_9 rfl (lv_at hl 0 rfl) ?_
      refine va_get (D := (dC, dI)) (ci := 6) (v := .int 0) (C := RX6) (T := TX6) (N := 2) hx hb hts is_reaches_RX6 hown hK hP k0 he0 rfl 1 (by decide) (hts (.fieldLink RX6 21 "PutBack$Text" "length" "I") (by decide +kernel)) (fun _ h9 => h9) rfl dX6_reaches_10 ?_
      refine lv_icmp_gt (tgt := 30) hx hb dX6_reaches_13 (by decide) (fun c_3 => ?_) (fun c_3 => ?_)
      · skip
        refine lv_iconst (v := 0) hx hb dX6_reaches_30 (by decide) ?_
        have hP9 := hP
        have hD9 := hD
        have hK9 := hK
        exact W.zret (v := 0) (ty := .boolean) hx hb hr rfl (fun t ht hW => ⟨⟨0, (), rfl, Or.inr ⟨rfl, fun h => by obtain ⟨h1, h2⟩ := h; subst h1; subst h2; revert c_3; decide⟩, by rw [ht]; exact hP9, va_K.moved hW.alike hK9, hD9⟩, hS.F ht⟩) hS.2.2 dX6_reaches_31
      · skip
        refine lv_iload_n hx hb dX6_reaches_16 rfl (lv_at hl 2 rfl) ?_
        refine lv_aload_n hx hb dX6_reaches_17 rfl (lv_at hl 0 rfl) ?_
        refine va_get (D := (dC, dI)) (ci := 6) (v := .int 0) (C := RX6) (T := TX6) (N := 2) hx hb hts is_reaches_RX6 hown hK hP k0 he0 rfl 1 (by decide) (hts (.fieldLink RX6 21 "PutBack$Text" "length" "I") (by decide +kernel)) (fun _ h9 => h9) rfl dX6_reaches_18 ?_
        refine lv_iload_n hx hb dX6_reaches_21 rfl (lv_at hl 1 rfl) ?_
        refine lv_isub hx hb dX6_reaches_22 ?_
        refine lv_icmp_gt (tgt := 30) hx hb dX6_reaches_23 (by decide) (fun c_4 => ?_) (fun c_4 => ?_)
        · skip
          refine lv_iconst (v := 0) hx hb dX6_reaches_30 (by decide) ?_
          have hP9 := hP
          have hD9 := hD
          have hK9 := hK
          exact W.zret (v := 0) (ty := .boolean) hx hb hr rfl (fun t ht hW => ⟨⟨0, (), rfl, Or.inr ⟨rfl, fun h => by obtain ⟨h1, h2⟩ := h; subst h1; subst h2; revert c_4; decide⟩, by rw [ht]; exact hP9, va_K.moved hW.alike hK9, hD9⟩, hS.F ht⟩) hS.2.2 dX6_reaches_31
        · skip
          refine lv_iconst (v := 1) hx hb dX6_reaches_26 (by decide) ?_
          refine lv_goto (tgt := 31) hx hb dX6_reaches_27 (by decide) ?_
          have hP9 := hP
          have hD9 := hD
          have hK9 := hK
          exact W.zret (v := 1) (ty := .boolean) hx hb hr rfl (fun t ht hW => ⟨⟨1, (), rfl, Or.inl ⟨rfl, zR1 c_1 c_2 c_3 c_4⟩, by rw [ht]; exact hP9, va_K.moved hW.alike hK9, hD9⟩, hS.F ht⟩) hS.2.2 dX6_reaches_31
def ws_fill : List Cond := .code yX6_fill cX6_fill 4 none :: ([.fieldLink RX6 9 "PutBack$Text" "ranks" "[B", .methodLink RX6 15 arraycopyName, .native arraycopyName, .static arraycopyName, .initialized "java/lang/System", .fieldLink RX6 21 "PutBack$Text" "length" "I"] ++ wsX60)
theorem is_fill_RX6 : ∀ w ∈ u_ws RX6 TX6 2, w ∈ ws_fill := fun w h => List.mem_cons_of_mem _ (List.mem_append_right _ h)
set_option maxHeartbeats 4000000 in
set_option maxRecDepth 100000 in
theorem s_fill (l : Launch) (dC : Nat → ClassId) (dI : Nat → Nat → Nat) (sz : Nat) (tx1 : Nat) (r2 : Nat) (r1 : Nat) (c1 : ClassId) (f1 : Nat → Int32) (c2 : ClassId) (f2 : Nat → Int32) (ws : va_W) (tl : List (ClassId × FieldType)) (k0 : Nat) (he0 : ws[k0]? = some (tx1, .inr (6, [.ref r1, .int 0]))) (k1 : Nat) (he1 : ws[k1]? = some (r1, .inl (c1, 60, .inl f1))) (k2 : Nat) (he2 : ws[k2]? = some (r2, .inl (c2, 60, .inl f2))) (t0 : Nat) (ht0 : tl[t0]? = some (c1, .byte)) (t1 : Nat) (ht1 : tl[t1]? = some (c2, .byte))  : Met l yX6_fill ws_fill ({ frames := 1, cells := 0, slots := 0, locals := 60 } : Room) (va_Pc [.ref tx1, .ref r2, .int 0, .int 0] (fun U => U.heap.size = sz ∧ va_P (dC, dI) cls ws U.heap ∧ va_K (dC, dI) cls tl U ∧ va_D (fun _ => True) ws)) (va_Qv (fun _ : Unit => True) (fun (_ : Unit) t => va_P (dC, dI) cls ws t.heap ∧ va_K (dC, dI) cls tl t ∧ va_D (va_A ws sz) ws) (va_A ws sz)) 0 0 (va_A ws sz) := by
  refine Met.ofW (cc := cX6_fill) (maxL := 4) (ret := none) (by decide) rfl ?_
  intro p e s m args below meth c s₁ B hml hv
  obtain ⟨rfl, hsz, hP, hK, hD0⟩ := hv
  have hx := B.exec
  have hb := B.bytes
  have hr := B.returns
  have hts := atoms_spec (ws := ws_fill) B.pre
  have hown : s.vm.findClass RX6 = some m.cls := findClass_of_methodNamed B.named
  have hlocks := B.notSynchronized
  subst hsz
  have hD := hD0.self (sz := s.heap.size)
  generalize hAe : va_A ws s.heap.size = A at hD ⊢
  have hA : ∀ q : Nat, s.heap.size ≤ q → A q := fun q h => by rw [← hAe]; exact Or.inr h
  have hP : va_P (dC, dI) cls ws s.heap := hP
  have hl := lv_entry ([.ref tx1, .ref r2, .int 0, .int 0]) (n := 4) (Nat.le_of_ble_eq_true rfl)
  rw [lg_entry_eq]
  generalize (lg_sl ([.ref tx1, .ref r2, .int 0, .int 0]) ++ List.replicate (4 - (lg_sl ([.ref tx1, .ref r2, .int 0, .int 0])).length) Slot.unset).toArray = ls at hl ⊢
  have hl : lv_has ls 4 [(0, .ref tx1), (1, .ref r2), (2, .int 0), (3, .int 0)] := hl
  obtain ⟨H, hH⟩ : ∃ H : Heap, s.heap = H := ⟨_, rfl⟩
  rw [hH] at hP ⊢
  have hS : va_S A s.heap H [] := by rw [← hH]; exact va_S.rf
  refine lv_iload_n hx hb dX6_fill_0 rfl (lv_at hl 2 rfl) ?_
  refine lv_if_lt (tgt := 38) hx hb dX6_fill_1 (by decide) (fun c_1 => ?_) (fun c_1 => ?_)
  · exact (by revert c_1; decide : False).elim
  refine lv_iload_n hx hb dX6_fill_4 rfl (lv_at hl 3 rfl) ?_
  refine lv_if_lt (tgt := 38) hx hb dX6_fill_5 (by decide) (fun c_2 => ?_) (fun c_2 => ?_)
  · exact (by revert c_2; decide : False).elim
  refine lv_iload_n hx hb dX6_fill_8 rfl (lv_at hl 3 rfl) ?_
  refine lv_bipush (v := 60) hx hb dX6_fill_9 (by decide) ?_
  refine lv_icmp_gt (tgt := 38) hx hb dX6_fill_11 (by decide) (fun c_3 => ?_) (fun c_3 => ?_)
  · exact (by revert c_3; decide : False).elim
  refine lv_iload_n hx hb dX6_fill_14 rfl (lv_at hl 2 rfl) ?_
  refine lv_aload_n hx hb dX6_fill_15 rfl (lv_at hl 1 rfl) ?_
  refine va_alen (v := 60) hx hb hK hP k2 t1 he2 ht1 (show Int32.ofNat 60 = 60 by decide) dX6_fill_16 ?_
  refine lv_iload_n hx hb dX6_fill_17 rfl (lv_at hl 3 rfl) ?_
  refine lv_isub hx hb dX6_fill_18 ?_
  refine lv_topi (fun z_4 ez_4 => ?_)
  obtain rfl : z_4 = (60 : Int32) := ez_4.trans (by decide)
  refine lv_icmp_gt (tgt := 38) hx hb dX6_fill_19 (by decide) (fun c_5 => ?_) (fun c_5 => ?_)
  · exact (by revert c_5; decide : False).elim
  refine lv_aload_n hx hb dX6_fill_22 rfl (lv_at hl 1 rfl) ?_
  refine lv_iload_n hx hb dX6_fill_23 rfl (lv_at hl 2 rfl) ?_
  refine lv_aload_n hx hb dX6_fill_24 rfl (lv_at hl 0 rfl) ?_
  refine va_get (D := (dC, dI)) (ci := 6) (v := .ref r1) (C := RX6) (T := TX6) (N := 2) hx hb hts is_fill_RX6 hown hK hP k0 he0 rfl 0 (by decide) (hts (.fieldLink RX6 9 "PutBack$Text" "ranks" "[B") (by decide +kernel)) (fun _ h9 => h9) rfl dX6_fill_25 ?_
  refine lv_iconst (v := 0) hx hb dX6_fill_28 (by decide) ?_
  refine lv_iload_n hx hb dX6_fill_29 rfl (lv_at hl 3 rfl) ?_
  refine va_copyi hx hb (hml.trans hl.1.symm) hown (hts (.methodLink RX6 15 arraycopyName) (by decide +kernel)) (hts (.native arraycopyName) (by decide +kernel)) (hts (.static arraycopyName) (by decide +kernel)) (hts (.initialized "java/lang/System") (by decide +kernel)) hK hP hD hS k2 k1 t1 t0 he2 he1 ht1 ht0 rfl (by decide) (by decide) (by decide) (Nat.le_of_ble_eq_true rfl) (Nat.le_of_ble_eq_true rfl) (fun i h => absurd h (Nat.not_lt_zero i)) (Nat.le_of_ble_eq_true rfl) (Nat.le_of_ble_eq_true rfl) dX6_fill_30 (fun H locs hP _ hS => ?_)
  have hP : va_P (dC, dI) cls ws H := by rw [← zSame he1]; rw [zCpy] at hP; exact hP
  refine lv_aload_n hx hb dX6_fill_33 rfl (lv_at hl 0 rfl) ?_
  refine lv_iload_n hx hb dX6_fill_34 rfl (lv_at hl 3 rfl) ?_
  refine va_put (D := (dC, dI)) (ci := 6) (v := .int 0) (ty := .int) (C := RX6) (T := TX6) (N := 2) hx hb hts is_fill_RX6 tyX6 tyX6_ok nmX6 hown hK hP hD hS k0 he0 rfl 1 (by decide) (hts (.fieldLink RX6 21 "PutBack$Text" "length" "I") (by decide +kernel)) (fun _ h9 => h9) rfl (by decide +kernel) rfl rfl (Nat.le_of_ble_eq_true rfl) dX6_fill_35 (fun H locs hP _ hS => ?_)
  have hP : va_P (dC, dI) cls ws H := by rw [← zSame he0]; exact hP
  have hP9 := hP
  have hD9 := hD
  have hK9 := hK
  exact W.vret hx hb hr (fun t ht hW => ⟨⟨(), rfl, trivial, by rw [ht]; exact hP9, va_K.moved hW.alike hK9, hD9⟩, hS.F ht⟩) hS.2.2 dX6_fill_38
def ws_become : List Cond := .code yX6_become cX6_become 2 none :: ([.fieldLink RX6 9 "PutBack$Text" "ranks" "[B", .fieldLink RX6 21 "PutBack$Text" "length" "I", .methodLink RX6 25 yX6_fill, .instanceMethod yX6_fill, .selects RX6 yX6_fill yX6_fill, .initialized RX6, .code yX6_fill cX6_fill 4 none, .methodLink RX6 15 arraycopyName, .native arraycopyName, .static arraycopyName, .initialized "java/lang/System"] ++ wsX60)
theorem is_become_RX6 : ∀ w ∈ u_ws RX6 TX6 2, w ∈ ws_become := fun w h => List.mem_cons_of_mem _ (List.mem_append_right _ h)
theorem gs_become_25g : GoodIn ws_become ws_fill := goodIn_r _ [7, 1, 8, 9, 10, 11, 2, 12, 13] (by decide +kernel) (by decide +kernel)
theorem gs_become_25 : GoodIn ws_become (wsV RX6 25 RX6 yX6_fill ws_fill) := goodIn_app (goodIn_of _ (by decide +kernel)) gs_become_25g
set_option maxHeartbeats 4000000 in
set_option maxRecDepth 100000 in
theorem s_become (l : Launch) (dC : Nat → ClassId) (dI : Nat → Nat → Nat) (sz : Nat) (tx1 : Nat) (tx2 : Nat) (r1 : Nat) (c1 : ClassId) (f1 : Nat → Int32) (r2 : Nat) (c2 : ClassId) (f2 : Nat → Int32) (ws : va_W) (tl : List (ClassId × FieldType)) (k0 : Nat) (he0 : ws[k0]? = some (tx1, .inr (6, [.ref r1, .int 0]))) (k1 : Nat) (he1 : ws[k1]? = some (r1, .inl (c1, 60, .inl f1))) (k2 : Nat) (he2 : ws[k2]? = some (tx2, .inr (6, [.ref r2, .int 0]))) (k3 : Nat) (he3 : ws[k3]? = some (r2, .inl (c2, 60, .inl f2))) (t0 : Nat) (ht0 : tl[t0]? = some (c1, .byte)) (t1 : Nat) (ht1 : tl[t1]? = some (c2, .byte))  : Met l yX6_become ws_become ({ frames := 2, cells := 0, slots := 0, locals := 83 } : Room) (va_Pc [.ref tx1, .ref tx2] (fun U => U.heap.size = sz ∧ va_P (dC, dI) cls ws U.heap ∧ va_K (dC, dI) cls tl U ∧ va_D (fun _ => True) ws)) (va_Qv (fun _ : Unit => True) (fun (_ : Unit) t => va_P (dC, dI) cls ws t.heap ∧ va_K (dC, dI) cls tl t ∧ va_D (va_A ws sz) ws) (va_A ws sz)) 0 0 (va_A ws sz) := by
  refine Met.ofW (cc := cX6_become) (maxL := 2) (ret := none) (by decide) rfl ?_
  intro p e s m args below meth c s₁ B hml hv
  obtain ⟨rfl, hsz, hP, hK, hD0⟩ := hv
  have hx := B.exec
  have hb := B.bytes
  have hr := B.returns
  have hts := atoms_spec (ws := ws_become) B.pre
  have hown : s.vm.findClass RX6 = some m.cls := findClass_of_methodNamed B.named
  have hlocks := B.notSynchronized
  subst hsz
  have hD := hD0.self (sz := s.heap.size)
  generalize hAe : va_A ws s.heap.size = A at hD ⊢
  have hA : ∀ q : Nat, s.heap.size ≤ q → A q := fun q h => by rw [← hAe]; exact Or.inr h
  have hP : va_P (dC, dI) cls ws s.heap := hP
  have hl := lv_entry ([.ref tx1, .ref tx2]) (n := 2) (Nat.le_of_ble_eq_true rfl)
  rw [lg_entry_eq]
  generalize (lg_sl ([.ref tx1, .ref tx2]) ++ List.replicate (2 - (lg_sl ([.ref tx1, .ref tx2])).length) Slot.unset).toArray = ls at hl ⊢
  have hl : lv_has ls 2 [(0, .ref tx1), (1, .ref tx2)] := hl
  obtain ⟨H, hH⟩ : ∃ H : Heap, s.heap = H := ⟨_, rfl⟩
  rw [hH] at hP ⊢
  have hS : va_S A s.heap H [] := by rw [← hH]; exact va_S.rf
  refine lv_aload_n hx hb dX6_become_0 rfl (lv_at hl 0 rfl) ?_
  refine lv_aload_n hx hb dX6_become_1 rfl (lv_at hl 1 rfl) ?_
  refine va_get (D := (dC, dI)) (ci := 6) (v := .ref r2) (C := RX6) (T := TX6) (N := 2) hx hb hts is_become_RX6 hown hK hP k2 he2 rfl 0 (by decide) (hts (.fieldLink RX6 9 "PutBack$Text" "ranks" "[B") (by decide +kernel)) (fun _ h9 => h9) rfl dX6_become_2 ?_
  refine lv_iconst (v := 0) hx hb dX6_become_5 (by decide) ?_
  refine lv_aload_n hx hb dX6_become_6 rfl (lv_at hl 1 rfl) ?_
  refine va_get (D := (dC, dI)) (ci := 6) (v := .int 0) (C := RX6) (T := TX6) (N := 2) hx hb hts is_become_RX6 hown hK hP k2 he2 rfl 1 (by decide) (hts (.fieldLink RX6 21 "PutBack$Text" "length" "I") (by decide +kernel)) (fun _ h9 => h9) rfl dX6_become_7 ?_
  have hFc := zFree hD hS hA
  refine va_callv (va_runV (As := [.ref r2, .int 0, .int 0]) (rest := []) ⟨hx, hb, hml, hown, hts⟩ (s_fill l dC dI H.size tx1 r2 r1 c1 f1 c2 f2 ws tl k0 he0 k1 he1 k3 he3 t0 ht0 t1 ht1) (cwV 3 hts gs_become_25 rfl rfl rfl (by decide +kernel) ⟨Nat.le_of_ble_eq_true rfl, Nat.le_of_ble_eq_true rfl⟩) ⟨fun a U g mk q => by obtain ⟨q0, q1, qP, qK, qD⟩ := q; exact ⟨q0, q1, qP, va_K.moved (u := U) (U := U.calling g mk a) (Vm.Alike.refl U.vm) qK, qD⟩, va_recv hK hP (ci := 6) (q0 := k0) rfl he0, fun U hU hW => ⟨rfl, by rw [hU], by rw [hU]; exact hP, va_K.moved hW.alike hK, hD.weaken (fun _ _ _ _ => trivial)⟩⟩ rfl rfl hl.1 rfl (lv_room (Nat.le_of_ble_eq_true rfl)) dX6_become_10 ⟨Nat.le_of_ble_eq_true rfl, Nat.le_of_ble_eq_true rfl⟩) hS (fun q _ h => hFc q h) hFc (fun u t H1 locs ht hvm hw hB hz1 hk1 hS => ?_)
  obtain ⟨hP, hK1, hD1⟩ := hB
  rw [ht] at hP
  try dsimp only at hw
  clear hk1 hz1 hFc hD1 hK1
  generalize H1 = H at hP hS ⊢
  have hP9 := hP
  have hD9 := hD
  have hK9 := hK
  exact W.vret hx hb hr (fun t ht hW => ⟨⟨(), rfl, trivial, by rw [ht]; exact hP9, va_K.moved hW.alike hK9, hD9⟩, hS.F ht⟩) hS.2.2 dX6_become_13
def ws_splice : List Cond := .code yX6_splice cX6_splice 6 (some .boolean) :: ([.methodLink RX6 29 yX6_reaches, .instanceMethod yX6_reaches, .selects RX6 yX6_reaches yX6_reaches, .initialized RX6, .code yX6_reaches cX6_reaches 3 (some .boolean), .fieldLink RX6 21 "PutBack$Text" "length" "I", .fieldLink RX6 9 "PutBack$Text" "ranks" "[B", .methodLink RX6 15 arraycopyName, .native arraycopyName, .static arraycopyName, .initialized "java/lang/System"] ++ wsX60)
theorem is_splice_RX6 : ∀ w ∈ u_ws RX6 TX6 2, w ∈ ws_splice := fun w h => List.mem_cons_of_mem _ (List.mem_append_right _ h)
theorem gs_splice_29g : GoodIn ws_splice ws_reaches := goodIn_r _ [5, 6, 12, 13] (by decide +kernel) (by decide +kernel)
theorem gs_splice_29 : GoodIn ws_splice (wsV RX6 29 RX6 yX6_reaches ws_reaches) := goodIn_app (goodIn_of _ (by decide +kernel)) gs_splice_29g
set_option maxHeartbeats 4000000 in
set_option maxRecDepth 100000 in
theorem s_splice (l : Launch) (dC : Nat → ClassId) (dI : Nat → Nat → Nat) (sz : Nat) (tx1 : Nat) (tx2 : Nat) (tx3 : Nat) (r1 : Nat) (c1 : ClassId) (f1 : Nat → Int32) (r2 : Nat) (c2 : ClassId) (f2 : Nat → Int32) (r3 : Nat) (c3 : ClassId) (f3 : Nat → Int32) (ws : va_W) (tl : List (ClassId × FieldType)) (k0 : Nat) (he0 : ws[k0]? = some (tx1, .inr (6, [.ref r1, .int 0]))) (k1 : Nat) (he1 : ws[k1]? = some (r1, .inl (c1, 60, .inl f1))) (k2 : Nat) (he2 : ws[k2]? = some (tx2, .inr (6, [.ref r2, .int 0]))) (k3 : Nat) (he3 : ws[k3]? = some (r2, .inl (c2, 60, .inl f2))) (k4 : Nat) (he4 : ws[k4]? = some (tx3, .inr (6, [.ref r3, .int 0]))) (k5 : Nat) (he5 : ws[k5]? = some (r3, .inl (c3, 60, .inl f3))) (t0 : Nat) (ht0 : tl[t0]? = some (c1, .byte)) (t1 : Nat) (ht1 : tl[t1]? = some (c2, .byte)) (t2 : Nat) (ht2 : tl[t2]? = some (c3, .byte))  : Met l yX6_splice ws_splice ({ frames := 1, cells := 0, slots := 0, locals := 60 } : Room) (va_Pc [.ref tx1, .ref tx2, .int 0, .int 0, .ref tx3] (fun U => U.heap.size = sz ∧ va_P (dC, dI) cls ws U.heap ∧ va_K (dC, dI) cls tl U ∧ va_D (fun _ => True) ws)) (va_Qi (fun (r : Int32) (_ : Unit) => r = 1) (fun (_ : Unit) t => va_P (dC, dI) cls ws t.heap ∧ va_K (dC, dI) cls tl t ∧ va_D (va_A ws sz) ws) (va_A ws sz)) 0 0 (va_A ws sz) := by
  refine Met.ofW (cc := cX6_splice) (maxL := 6) (ret := (some .boolean)) (by decide) rfl ?_
  intro p e s m args below meth c s₁ B hml hv
  obtain ⟨rfl, hsz, hP, hK, hD0⟩ := hv
  have hx := B.exec
  have hb := B.bytes
  have hr := B.returns
  have hts := atoms_spec (ws := ws_splice) B.pre
  have hown : s.vm.findClass RX6 = some m.cls := findClass_of_methodNamed B.named
  have hlocks := B.notSynchronized
  subst hsz
  have hD := hD0.self (sz := s.heap.size)
  generalize hAe : va_A ws s.heap.size = A at hD ⊢
  have hA : ∀ q : Nat, s.heap.size ≤ q → A q := fun q h => by rw [← hAe]; exact Or.inr h
  have hP : va_P (dC, dI) cls ws s.heap := hP
  have hl := lv_entry ([.ref tx1, .ref tx2, .int 0, .int 0, .ref tx3]) (n := 6) (Nat.le_of_ble_eq_true rfl)
  rw [lg_entry_eq]
  generalize (lg_sl ([.ref tx1, .ref tx2, .int 0, .int 0, .ref tx3]) ++ List.replicate (6 - (lg_sl ([.ref tx1, .ref tx2, .int 0, .int 0, .ref tx3])).length) Slot.unset).toArray = ls at hl ⊢
  have hl : lv_has ls 6 [(0, .ref tx1), (1, .ref tx2), (2, .int 0), (3, .int 0), (4, .ref tx3)] := hl
  obtain ⟨H, hH⟩ : ∃ H : Heap, s.heap = H := ⟨_, rfl⟩
  rw [hH] at hP ⊢
  have hS : va_S A s.heap H [] := by rw [← hH]; exact va_S.rf
  refine lv_aload_n hx hb dX6_splice_0 rfl (lv_at hl 1 rfl) ?_
  refine lv_iload_n hx hb dX6_splice_1 rfl (lv_at hl 2 rfl) ?_
  refine lv_iload_n hx hb dX6_splice_2 rfl (lv_at hl 3 rfl) ?_
  have hFc := zFree hD hS hA
  refine va_calli (va_runV (As := [.int 0, .int 0]) (rest := []) ⟨hx, hb, hml, hown, hts⟩ (s_reaches l dC dI H.size tx2 0 0 r2 ws tl k2 he2) (cwV 2 hts gs_splice_29 rfl rfl rfl (by decide +kernel) ⟨Nat.le_of_ble_eq_true rfl, Nat.le_of_ble_eq_true rfl⟩) ⟨fun a U g mk q => by obtain ⟨q0, q1, qP, qK, qD⟩ := q; exact ⟨q0, q1, qP, va_K.moved (u := U) (U := U.calling g mk a) (Vm.Alike.refl U.vm) qK, qD⟩, va_recv hK hP (ci := 6) (q0 := k2) rfl he2, fun U hU hW => ⟨rfl, by rw [hU], by rw [hU]; exact hP, va_K.moved hW.alike hK, hD.weaken (fun _ _ _ _ => trivial)⟩⟩ rfl rfl hl.1 rfl (lv_room (Nat.le_of_ble_eq_true rfl)) dX6_splice_3 ⟨Nat.le_of_ble_eq_true rfl, Nat.le_of_ble_eq_true rfl⟩) hS (fun q _ h => hFc q h) hFc (fun r_1 u t H1 locs ht hvm hw hB hz1 hk1 hS => ?_)
  obtain ⟨hP, hK1, hD1⟩ := hB
  rw [ht] at hP
  try dsimp only at hw
  clear hk1 hz1 hFc hD1 hK1
  generalize H1 = H at hP hS ⊢
  rcases hw with ⟨rfl, f_2⟩ | ⟨rfl, f_2⟩
  · skip
    refine lv_if_eq (tgt := 26) hx hb dX6_splice_6 (by decide) (fun c_3 => ?_) (fun c_3 => ?_)
    · exact (by revert c_3; decide : False).elim
    refine lv_aload_n hx hb dX6_splice_9 rfl (lv_at hl 1 rfl) ?_
    refine va_get (D := (dC, dI)) (ci := 6) (v := .int 0) (C := RX6) (T := TX6) (N := 2) hx hb hts is_splice_RX6 hown hK hP k2 he2 rfl 1 (by decide) (hts (.fieldLink RX6 21 "PutBack$Text" "length" "I") (by decide +kernel)) (fun _ h9 => h9) rfl dX6_splice_10 ?_
    refine lv_iload_n hx hb dX6_splice_13 rfl (lv_at hl 3 rfl) ?_
    refine lv_isub hx hb dX6_splice_14 ?_
    refine lv_topi (fun z_4 ez_4 => ?_)
    obtain rfl : z_4 = (0 : Int32) := ez_4.trans (by decide)
    refine lv_aload hx hb dX6_splice_15 (lv_at hl 4 rfl) ?_
    refine va_get (D := (dC, dI)) (ci := 6) (v := .int 0) (C := RX6) (T := TX6) (N := 2) hx hb hts is_splice_RX6 hown hK hP k4 he4 rfl 1 (by decide) (hts (.fieldLink RX6 21 "PutBack$Text" "length" "I") (by decide +kernel)) (fun _ h9 => h9) rfl dX6_splice_17 ?_
    refine lv_iadd hx hb dX6_splice_20 ?_
    refine lv_topi (fun z_5 ez_5 => ?_)
    obtain rfl : z_5 = (0 : Int32) := ez_5.trans (by decide)
    refine lv_bipush (v := 60) hx hb dX6_splice_21 (by decide) ?_
    refine lv_icmp_le (tgt := 28) hx hb dX6_splice_23 (by decide) (fun c_6 => ?_) (fun c_6 => ?_)
    rotate_left
    · exact (by revert c_6; decide : False).elim
    refine lv_iload_n hx hb dX6_splice_28 rfl (lv_at hl 2 rfl) ?_
    refine lv_iload_n hx hb dX6_splice_29 rfl (lv_at hl 3 rfl) ?_
    refine lv_iadd hx hb dX6_splice_30 ?_
    refine lv_topi (fun z_7 ez_7 => ?_)
    obtain rfl : z_7 = (0 : Int32) := ez_7.trans (by decide)
    refine lv_istore (lv' := [(5, .int 0), (0, .ref tx1), (1, .ref tx2), (2, .int 0), (3, .int 0), (4, .ref tx3)]) hx hb dX6_splice_31 hl (by decide) rfl (fun ls hl => ?_)
    refine lv_aload_n hx hb dX6_splice_33 rfl (lv_at hl 2 rfl) ?_
    refine va_get (D := (dC, dI)) (ci := 6) (v := .ref r2) (C := RX6) (T := TX6) (N := 2) hx hb hts is_splice_RX6 hown hK hP k2 he2 rfl 0 (by decide) (hts (.fieldLink RX6 9 "PutBack$Text" "ranks" "[B") (by decide +kernel)) (fun _ h9 => h9) rfl dX6_splice_34 ?_
    refine lv_iconst (v := 0) hx hb dX6_splice_37 (by decide) ?_
    refine lv_aload_n hx hb dX6_splice_38 rfl (lv_at hl 1 rfl) ?_
    refine va_get (D := (dC, dI)) (ci := 6) (v := .ref r1) (C := RX6) (T := TX6) (N := 2) hx hb hts is_splice_RX6 hown hK hP k0 he0 rfl 0 (by decide) (hts (.fieldLink RX6 9 "PutBack$Text" "ranks" "[B") (by decide +kernel)) (fun _ h9 => h9) rfl dX6_splice_39 ?_
    refine lv_iconst (v := 0) hx hb dX6_splice_42 (by decide) ?_
    refine lv_iload_n hx hb dX6_splice_43 rfl (lv_at hl 3 rfl) ?_
    refine va_copyi hx hb (hml.trans hl.1.symm) hown (hts (.methodLink RX6 15 arraycopyName) (by decide +kernel)) (hts (.native arraycopyName) (by decide +kernel)) (hts (.static arraycopyName) (by decide +kernel)) (hts (.initialized "java/lang/System") (by decide +kernel)) hK hP hD hS k3 k1 t1 t0 he3 he1 ht1 ht0 rfl (by decide) (by decide) (by decide) (Nat.le_of_ble_eq_true rfl) (Nat.le_of_ble_eq_true rfl) (fun i h => absurd h (Nat.not_lt_zero i)) (Nat.le_of_ble_eq_true rfl) (Nat.le_of_ble_eq_true rfl) dX6_splice_44 (fun H locs hP _ hS => ?_)
    have hP : va_P (dC, dI) cls ws H := by rw [← zSame he1]; rw [zCpy] at hP; exact hP
    refine lv_aload hx hb dX6_splice_47 (lv_at hl 5 rfl) ?_
    refine va_get (D := (dC, dI)) (ci := 6) (v := .ref r3) (C := RX6) (T := TX6) (N := 2) hx hb hts is_splice_RX6 hown hK hP k4 he4 rfl 0 (by decide) (hts (.fieldLink RX6 9 "PutBack$Text" "ranks" "[B") (by decide +kernel)) (fun _ h9 => h9) rfl dX6_splice_49 ?_
    refine lv_iconst (v := 0) hx hb dX6_splice_52 (by decide) ?_
    refine lv_aload_n hx hb dX6_splice_53 rfl (lv_at hl 1 rfl) ?_
    refine va_get (D := (dC, dI)) (ci := 6) (v := .ref r1) (C := RX6) (T := TX6) (N := 2) hx hb hts is_splice_RX6 hown hK hP k0 he0 rfl 0 (by decide) (hts (.fieldLink RX6 9 "PutBack$Text" "ranks" "[B") (by decide +kernel)) (fun _ h9 => h9) rfl dX6_splice_54 ?_
    refine lv_iload_n hx hb dX6_splice_57 rfl (lv_at hl 3 rfl) ?_
    refine lv_aload hx hb dX6_splice_58 (lv_at hl 5 rfl) ?_
    refine va_get (D := (dC, dI)) (ci := 6) (v := .int 0) (C := RX6) (T := TX6) (N := 2) hx hb hts is_splice_RX6 hown hK hP k4 he4 rfl 1 (by decide) (hts (.fieldLink RX6 21 "PutBack$Text" "length" "I") (by decide +kernel)) (fun _ h9 => h9) rfl dX6_splice_60 ?_
    refine va_copyi hx hb (hml.trans hl.1.symm) hown (hts (.methodLink RX6 15 arraycopyName) (by decide +kernel)) (hts (.native arraycopyName) (by decide +kernel)) (hts (.static arraycopyName) (by decide +kernel)) (hts (.initialized "java/lang/System") (by decide +kernel)) hK hP hD hS k5 k1 t2 t0 he5 he1 ht2 ht0 rfl (by decide) (by decide) (by decide) (Nat.le_of_ble_eq_true rfl) (Nat.le_of_ble_eq_true rfl) (fun i h => absurd h (Nat.not_lt_zero i)) (Nat.le_of_ble_eq_true rfl) (Nat.le_of_ble_eq_true rfl) dX6_splice_63 (fun H locs hP _ hS => ?_)
    have hP : va_P (dC, dI) cls ws H := by rw [← zSame he1]; rw [zCpy] at hP; exact hP
    refine lv_aload_n hx hb dX6_splice_66 rfl (lv_at hl 2 rfl) ?_
    refine va_get (D := (dC, dI)) (ci := 6) (v := .ref r2) (C := RX6) (T := TX6) (N := 2) hx hb hts is_splice_RX6 hown hK hP k2 he2 rfl 0 (by decide) (hts (.fieldLink RX6 9 "PutBack$Text" "ranks" "[B") (by decide +kernel)) (fun _ h9 => h9) rfl dX6_splice_67 ?_
    refine lv_iload hx hb dX6_splice_70 (lv_at hl 0 rfl) ?_
    refine lv_aload_n hx hb dX6_splice_72 rfl (lv_at hl 1 rfl) ?_
    refine va_get (D := (dC, dI)) (ci := 6) (v := .ref r1) (C := RX6) (T := TX6) (N := 2) hx hb hts is_splice_RX6 hown hK hP k0 he0 rfl 0 (by decide) (hts (.fieldLink RX6 9 "PutBack$Text" "ranks" "[B") (by decide +kernel)) (fun _ h9 => h9) rfl dX6_splice_73 ?_
    refine lv_iload_n hx hb dX6_splice_76 rfl (lv_at hl 3 rfl) ?_
    refine lv_aload hx hb dX6_splice_77 (lv_at hl 5 rfl) ?_
    refine va_get (D := (dC, dI)) (ci := 6) (v := .int 0) (C := RX6) (T := TX6) (N := 2) hx hb hts is_splice_RX6 hown hK hP k4 he4 rfl 1 (by decide) (hts (.fieldLink RX6 21 "PutBack$Text" "length" "I") (by decide +kernel)) (fun _ h9 => h9) rfl dX6_splice_79 ?_
    refine lv_iadd hx hb dX6_splice_82 ?_
    refine lv_topi (fun z_8 ez_8 => ?_)
    obtain rfl : z_8 = (0 : Int32) := ez_8.trans (by decide)
    refine lv_aload_n hx hb dX6_splice_83 rfl (lv_at hl 2 rfl) ?_
    refine va_get (D := (dC, dI)) (ci := 6) (v := .int 0) (C := RX6) (T := TX6) (N := 2) hx hb hts is_splice_RX6 hown hK hP k2 he2 rfl 1 (by decide) (hts (.fieldLink RX6 21 "PutBack$Text" "length" "I") (by decide +kernel)) (fun _ h9 => h9) rfl dX6_splice_84 ?_
    refine lv_iload hx hb dX6_splice_87 (lv_at hl 0 rfl) ?_
    refine lv_isub hx hb dX6_splice_89 ?_
    refine lv_topi (fun z_9 ez_9 => ?_)
    obtain rfl : z_9 = (0 : Int32) := ez_9.trans (by decide)
    refine va_copyi hx hb (hml.trans hl.1.symm) hown (hts (.methodLink RX6 15 arraycopyName) (by decide +kernel)) (hts (.native arraycopyName) (by decide +kernel)) (hts (.static arraycopyName) (by decide +kernel)) (hts (.initialized "java/lang/System") (by decide +kernel)) hK hP hD hS k3 k1 t1 t0 he3 he1 ht1 ht0 rfl (by decide) (by decide) (by decide) (Nat.le_of_ble_eq_true rfl) (Nat.le_of_ble_eq_true rfl) (fun i h => absurd h (Nat.not_lt_zero i)) (Nat.le_of_ble_eq_true rfl) (Nat.le_of_ble_eq_true rfl) dX6_splice_90 (fun H locs hP _ hS => ?_)
    have hP : va_P (dC, dI) cls ws H := by rw [← zSame he1]; rw [zCpy] at hP; exact hP
    refine lv_aload_n hx hb dX6_splice_93 rfl (lv_at hl 1 rfl) ?_
    refine lv_aload_n hx hb dX6_splice_94 rfl (lv_at hl 2 rfl) ?_
    refine va_get (D := (dC, dI)) (ci := 6) (v := .int 0) (C := RX6) (T := TX6) (N := 2) hx hb hts is_splice_RX6 hown hK hP k2 he2 rfl 1 (by decide) (hts (.fieldLink RX6 21 "PutBack$Text" "length" "I") (by decide +kernel)) (fun _ h9 => h9) rfl dX6_splice_95 ?_
    refine lv_iload_n hx hb dX6_splice_98 rfl (lv_at hl 4 rfl) ?_
    refine lv_isub hx hb dX6_splice_99 ?_
    refine lv_topi (fun z_10 ez_10 => ?_)
    obtain rfl : z_10 = (0 : Int32) := ez_10.trans (by decide)
    refine lv_aload hx hb dX6_splice_100 (lv_at hl 5 rfl) ?_
    refine va_get (D := (dC, dI)) (ci := 6) (v := .int 0) (C := RX6) (T := TX6) (N := 2) hx hb hts is_splice_RX6 hown hK hP k4 he4 rfl 1 (by decide) (hts (.fieldLink RX6 21 "PutBack$Text" "length" "I") (by decide +kernel)) (fun _ h9 => h9) rfl dX6_splice_102 ?_
    refine lv_iadd hx hb dX6_splice_105 ?_
    refine lv_topi (fun z_11 ez_11 => ?_)
    obtain rfl : z_11 = (0 : Int32) := ez_11.trans (by decide)
    refine va_put (D := (dC, dI)) (ci := 6) (v := .int 0) (ty := .int) (C := RX6) (T := TX6) (N := 2) hx hb hts is_splice_RX6 tyX6 tyX6_ok nmX6 hown hK hP hD hS k0 he0 rfl 1 (by decide) (hts (.fieldLink RX6 21 "PutBack$Text" "length" "I") (by decide +kernel)) (fun _ h9 => h9) rfl (by decide +kernel) rfl rfl (Nat.le_of_ble_eq_true rfl) dX6_splice_106 (fun H locs hP _ hS => ?_)
    have hP : va_P (dC, dI) cls ws H := by rw [← zSame he0]; exact hP
    refine lv_iconst (v := 1) hx hb dX6_splice_109 (by decide) ?_
    have hP9 := hP
    have hD9 := hD
    have hK9 := hK
    exact W.zret (v := 1) (ty := .boolean) hx hb hr rfl (fun t ht hW => ⟨⟨1, (), rfl, rfl, by rw [ht]; exact hP9, va_K.moved hW.alike hK9, hD9⟩, hS.F ht⟩) hS.2.2 dX6_splice_110
  · exact absurd ⟨rfl, rfl⟩ f_2
def wk_text : List Cond := .code yX11_text cX11_text 4 (some .int) :: ([.methodLink RX11 74 yX11_slotAt, .instanceMethod yX11_slotAt, .selects RX11 yX11_slotAt yX11_slotAt, .initialized RX11, .code yX11_slotAt cX11_slotAt 2 (some (.object "PutBack$Text")), .fieldLink RX11 11 "PutBack" "slots" "[LPutBack$Text;", .fieldLink RX11 27 "PutBack" "reader" "LPutBack$Reader;", .methodLink RX11 78 yX4_isText, .instanceMethod yX4_isText, .selects RX4 yX4_isText yX4_isText, .initialized RX4, .code yX4_isText cX4_isText 3 (some .boolean), .fieldLink RX4 43 "PutBack$Reader" "length" "I", .methodLink RX11 82 yX4_spellInto, .instanceMethod yX4_spellInto, .selects RX4 yX4_spellInto yX4_spellInto, .code yX4_spellInto cX4_spellInto 3 none, .methodLink RX4 50 Lib.Math.min.name, .static Lib.Math.min.name, .initialized "java/lang/Math", .code Lib.Math.min.name Lib.Math.min.code 2 (some .int), .fieldLink RX4 56 "PutBack$Text" "length" "I", .fieldLink RX11 53 "PutBack$Reader" "length" "I", .fieldLink RX11 86 "PutBack$Text" "length" "I"] ++ wsX40 ++ wsX60 ++ wsX110)
theorem ik_text_RX4 : ∀ w ∈ u_ws RX4 TX4 14, w ∈ wk_text := fun w h => List.mem_cons_of_mem _ (List.mem_append_left _ (List.mem_append_left _ (List.mem_append_right _ h)))
theorem ik_text_RX6 : ∀ w ∈ u_ws RX6 TX6 2, w ∈ wk_text := fun w h => List.mem_cons_of_mem _ (List.mem_append_left _ (List.mem_append_right _ h))
theorem ik_text_RX11 : ∀ w ∈ u_ws RX11 TX11 6, w ∈ wk_text := fun w h => List.mem_cons_of_mem _ (List.mem_append_right _ h)
theorem gk_text_74g : GoodIn wk_text ws_slotAt := goodIn_r _ [5, 6, 41, 42, 43, 44, 45, 46] (by decide +kernel) (by decide +kernel)
theorem gk_text_74 : GoodIn wk_text (wsV RX11 74 RX11 yX11_slotAt ws_slotAt) := goodIn_app (goodIn_of _ (by decide +kernel)) gk_text_74g
theorem gk_text_78g : GoodIn wk_text ws_isText := goodIn_r _ [12, 13, 25, 26, 27, 28, 29, 30, 31, 32, 33, 34, 35, 36, 37, 38] (by decide +kernel) (by decide +kernel)
theorem gk_text_78 : GoodIn wk_text (wsV RX11 78 RX4 yX4_isText ws_isText) := goodIn_app (goodIn_of _ (by decide +kernel)) gk_text_78g
theorem gk_text_82g : GoodIn wk_text ws_spellInto := goodIn_r _ [17, 13, 18, 19, 20, 21, 22, 25, 26, 27, 28, 29, 30, 31, 32, 33, 34, 35, 36, 37, 38, 39, 40] (by decide +kernel) (by decide +kernel)
theorem gk_text_82 : GoodIn wk_text (wsV RX11 82 RX4 yX4_spellInto ws_spellInto) := goodIn_app (goodIn_of _ (by decide +kernel)) gk_text_82g
set_option maxHeartbeats 4000000 in
set_option maxRecDepth 100000 in
theorem k_text (l : Launch) (dC : Nat → ClassId) (dI : Nat → Nat → Nat) (sz : Nat) (h0 : Nat) (v1 : Int32) (sl : Nat) (walker_ : Nat) (rd : Nat) (machine_ : Nat) (trial_ : Nat) (dk : Nat) (cT : ClassId) (fT : Nat → Option Nat) (lenses_ : Nat) (tp : Nat) (names_ : Nat) (quoted_ : Nat) (links_ : Nat) (walker2_ : Nat)  (ws : va_W) (tl : List (ClassId × FieldType)) (k0 : Nat) (he0 : ws[k0]? = some (h0, .inr (11, [.ref sl, .ref walker_, .ref rd, .ref machine_, .ref trial_, .ref dk]))) (k1 : Nat) (he1 : ws[k1]? = some (sl, .inl (cT, 8, .inr (.inr (.inr (.inr fT)))))) (k2 : Nat) (he2 : ws[k2]? = some (rd, .inr (4, [.ref lenses_, .int 0, .int 0, .int 0, .int (-1), .int (-1), .ref tp, .ref names_, .ref quoted_, .ref links_, .ref walker2_, .int 0, .int 0, .int 0]))) (t0 : Nat) (ht0 : tl[t0]? = some (cT, .object RX6)) (hfs : ∀ i : Int32, inS i → ∃ (t r : Nat) (cc1 : ClassId) (g1 : Nat → Int32) (k k2 k3 : Nat), fT i.toNatClampNeg = some t ∧ ws[k]? = some (t, .inr (6, [.ref r, .int 0])) ∧ ws[k2]? = some (r, .inl (cc1, 60, .inl g1)) ∧ tl[k3]? = some (cc1, .byte)) : Met l yX11_text wk_text ({ frames := 2, cells := 0, slots := 0, locals := 62 } : Room) (va_Pc [.ref h0, .int v1] (fun U => U.heap.size = sz ∧ va_P (dC, dI) cls ws U.heap ∧ va_K (dC, dI) cls tl U ∧ va_D (fun _ => True) ws)) (va_Qi (fun (r : Int32) (_ : Unit) => r = sp_text v1) (fun (_ : Unit) t => va_P (dC, dI) cls ws t.heap ∧ va_K (dC, dI) cls tl t ∧ va_D (va_A ws sz) ws) (va_A ws sz)) 0 0 (va_A ws sz) := by
  refine Met.ofW (cc := cX11_text) (maxL := 4) (ret := (some .int)) (by decide) rfl ?_
  intro p e s m args below meth c s₁ B hml hv
  obtain ⟨rfl, hsz, hP, hK, hD0⟩ := hv
  have hx := B.exec
  have hb := B.bytes
  have hr := B.returns
  have hts := atoms_spec (ws := wk_text) B.pre
  have hown : s.vm.findClass RX11 = some m.cls := findClass_of_methodNamed B.named
  have hlocks := B.notSynchronized
  subst hsz
  have hD := hD0.self (sz := s.heap.size)
  generalize hAe : va_A ws s.heap.size = A at hD ⊢
  have hA : ∀ q : Nat, s.heap.size ≤ q → A q := fun q h => by rw [← hAe]; exact Or.inr h
  have hP : va_P (dC, dI) cls ws s.heap := hP
  have hl := lv_entry ([.ref h0, .int v1]) (n := 4) (Nat.le_of_ble_eq_true rfl)
  rw [lg_entry_eq]
  generalize (lg_sl ([.ref h0, .int v1]) ++ List.replicate (4 - (lg_sl ([.ref h0, .int v1])).length) Slot.unset).toArray = ls at hl ⊢
  have hl : lv_has ls 4 [(0, .ref h0), (1, .int v1)] := hl
  obtain ⟨H, hH⟩ : ∃ H : Heap, s.heap = H := ⟨_, rfl⟩
  rw [hH] at hP ⊢
  have hS : va_S A s.heap H [] := by rw [← hH]; exact va_S.rf
  have hf : ∀ i : Int32, inS i → ∃ t, fT i.toNatClampNeg = some t := fun i h => by obtain ⟨t, _, _, _, _, _, _, e, _⟩ := hfs i h; exact ⟨t, e⟩
  refine lv_aload_n hx hb dX11_text_0 rfl (lv_at hl 0 rfl) ?_
  refine lv_iload_n hx hb dX11_text_1 rfl (lv_at hl 1 rfl) ?_
  have hFc := zFree hD hS hA
  refine va_callq (va_runV (As := [.int v1]) (rest := []) ⟨hx, hb, hml, hown, hts⟩ (s_slotAt l dC dI H.size h0 v1 sl walker_ rd machine_ trial_ dk cT fT ws tl k0 he0 k1 he1 t0 ht0 hf) (cwV 1 hts gk_text_74 rfl rfl rfl (by decide +kernel) ⟨Nat.le_of_ble_eq_true rfl, Nat.le_of_ble_eq_true rfl⟩) ⟨fun a U g mk q => by obtain ⟨q0, q1, qP, qK, qD⟩ := q; exact ⟨q0, q1, qP, va_K.moved (u := U) (U := U.calling g mk a) (Vm.Alike.refl U.vm) qK, qD⟩, va_recv hK hP (ci := 11) (q0 := k0) rfl he0, fun U hU hW => ⟨rfl, by rw [hU], by rw [hU]; exact hP, va_K.moved hW.alike hK, hD.weaken (fun _ _ _ _ => trivial)⟩⟩ rfl rfl hl.1 rfl (lv_room (Nat.le_of_ble_eq_true rfl)) dX11_text_2 ⟨Nat.le_of_ble_eq_true rfl, Nat.le_of_ble_eq_true rfl⟩) hS (fun q _ h => hFc q h) hFc (fun r_1 u t H1 locs ht hvm hw hB hz1 hk1 hS => ?_)
  obtain ⟨hP, hK1, hD1⟩ := hB
  rw [ht] at hP
  try dsimp only at hw
  clear hk1 hz1 hFc hD1 hK1
  generalize H1 = H at hP hS ⊢
  rcases hw with ⟨f_2, rfl⟩ | ⟨f_2, rfl⟩
  · skip
    obtain ⟨t_3, et_3⟩ := hf v1 f_2
    refine W.eq (g2 := F0 m 5 ls [.ref t_3]) (by rw [et_3]; rfl) ?_
    obtain ⟨s_4_t, s_4_r, s_4_c, s_4_g, s_4_k, s_4_k2, s_4_k3, s_4_e, s_4_h, s_4_h2, s_4_h3⟩ := hfs v1 f_2
    obtain rfl : t_3 = s_4_t := Option.some.inj (et_3.symm.trans s_4_e)
    refine lv_astore_n (lv' := [(2, .ref t_3), (0, .ref h0), (1, .int v1)]) hx hb dX11_text_5 rfl hl (by decide) rfl (fun ls hl => ?_)
    refine lv_aload_n hx hb dX11_text_6 rfl (lv_at hl 0 rfl) ?_
    refine lv_ifnull hx hb dX11_text_7 ?_
    refine lv_aload_n hx hb dX11_text_10 rfl (lv_at hl 1 rfl) ?_
    refine va_get (D := (dC, dI)) (ci := 11) (v := .ref rd) (C := RX11) (T := TX11) (N := 6) hx hb hts ik_text_RX11 hown hK hP k0 he0 rfl 2 (by decide) (hts (.fieldLink RX11 27 "PutBack" "reader" "LPutBack$Reader;") (by decide +kernel)) (fun _ h9 => h9) rfl dX11_text_11 ?_
    have hFc := zFree hD hS hA
    refine va_calli (va_runV (As := []) (rest := []) ⟨hx, hb, hml, hown, hts⟩ (s_isText l dC dI H.size rd lenses_ tp names_ quoted_ links_ walker2_ ws tl k2 he2) (cwV 0 hts gk_text_78 rfl rfl rfl (by decide +kernel) ⟨Nat.le_of_ble_eq_true rfl, Nat.le_of_ble_eq_true rfl⟩) ⟨fun a U g mk q => by obtain ⟨q0, q1, qP, qK, qD⟩ := q; exact ⟨q0, q1, qP, va_K.moved (u := U) (U := U.calling g mk a) (Vm.Alike.refl U.vm) qK, qD⟩, va_recv hK hP (ci := 4) (q0 := k2) rfl he2, fun U hU hW => ⟨rfl, by rw [hU], by rw [hU]; exact hP, va_K.moved hW.alike hK, hD.weaken (fun _ _ _ _ => trivial)⟩⟩ rfl rfl hl.1 rfl (lv_room (Nat.le_of_ble_eq_true rfl)) dX11_text_14 ⟨Nat.le_of_ble_eq_true rfl, Nat.le_of_ble_eq_true rfl⟩) hS (fun q _ h => hFc q h) hFc (fun r_5 u t H1 locs ht hvm hw hB hz1 hk1 hS => ?_)
    obtain ⟨hP, hK1, hD1⟩ := hB
    rw [ht] at hP
    try dsimp only at hw
    clear hk1 hz1 hFc hD1 hK1
    generalize H1 = H at hP hS ⊢
    obtain rfl := hw
    refine lv_if_eq (tgt := 24) hx hb dX11_text_17 (by decide) (fun c_6 => ?_) (fun c_6 => ?_)
    · exact (by revert c_6; decide : False).elim
    refine lv_iconst (v := 1) hx hb dX11_text_20 (by decide) ?_
    refine lv_goto (tgt := 25) hx hb dX11_text_21 (by decide) ?_
    refine lv_istore_n (lv' := [(3, .int 1), (2, .ref t_3), (0, .ref h0), (1, .int v1)]) hx hb dX11_text_25 rfl hl (by decide) rfl (fun ls hl => ?_)
    refine lv_iload_n hx hb dX11_text_26 rfl (lv_at hl 0 rfl) ?_
    refine lv_if_eq (tgt := 38) hx hb dX11_text_27 (by decide) (fun c_7 => ?_) (fun c_7 => ?_)
    · exact (by revert c_7; decide : False).elim
    refine lv_aload_n hx hb dX11_text_30 rfl (lv_at hl 2 rfl) ?_
    refine va_get (D := (dC, dI)) (ci := 11) (v := .ref rd) (C := RX11) (T := TX11) (N := 6) hx hb hts ik_text_RX11 hown hK hP k0 he0 rfl 2 (by decide) (hts (.fieldLink RX11 27 "PutBack" "reader" "LPutBack$Reader;") (by decide +kernel)) (fun _ h9 => h9) rfl dX11_text_31 ?_
    refine lv_aload_n hx hb dX11_text_34 rfl (lv_at hl 1 rfl) ?_
    have hFc := zFree hD hS hA
    refine va_callv (va_runV (As := [.ref t_3]) (rest := []) ⟨hx, hb, hml, hown, hts⟩ (s_spellInto l dC dI H.size rd t_3 lenses_ tp names_ quoted_ links_ walker2_ s_4_r ws tl k2 he2 s_4_k s_4_h) (cwV 1 hts gk_text_82 rfl rfl rfl (by decide +kernel) ⟨Nat.le_of_ble_eq_true rfl, Nat.le_of_ble_eq_true rfl⟩) ⟨fun a U g mk q => by obtain ⟨q0, q1, qP, qK, qD⟩ := q; exact ⟨q0, q1, qP, va_K.moved (u := U) (U := U.calling g mk a) (Vm.Alike.refl U.vm) qK, qD⟩, va_recv hK hP (ci := 4) (q0 := k2) rfl he2, fun U hU hW => ⟨rfl, by rw [hU], by rw [hU]; exact hP, va_K.moved hW.alike hK, hD.weaken (fun _ _ _ _ => trivial)⟩⟩ rfl rfl hl.1 rfl (lv_room (Nat.le_of_ble_eq_true rfl)) dX11_text_35 ⟨Nat.le_of_ble_eq_true rfl, Nat.le_of_ble_eq_true rfl⟩) hS (fun q _ h => hFc q h) hFc (fun u t H1 locs ht hvm hw hB hz1 hk1 hS => ?_)
    obtain ⟨hP, hK1, hD1⟩ := hB
    rw [ht] at hP
    try dsimp only at hw
    clear hk1 hz1 hFc hD1 hK1
    generalize H1 = H at hP hS ⊢
    refine lv_aload_n hx hb dX11_text_38 rfl (lv_at hl 2 rfl) ?_
    refine va_get (D := (dC, dI)) (ci := 11) (v := .ref rd) (C := RX11) (T := TX11) (N := 6) hx hb hts ik_text_RX11 hown hK hP k0 he0 rfl 2 (by decide) (hts (.fieldLink RX11 27 "PutBack" "reader" "LPutBack$Reader;") (by decide +kernel)) (fun _ h9 => h9) rfl dX11_text_39 ?_
    refine lv_iconst (v := 0) hx hb dX11_text_42 (by decide) ?_
    refine va_put (D := (dC, dI)) (ci := 4) (v := .int 0) (ty := .int) (C := RX4) (T := TX4) (N := 14) hx hb hts ik_text_RX4 tyX4 tyX4_ok nmX4 hown hK hP hD hS k2 he2 rfl 2 (by decide) (hts (.fieldLink RX11 53 "PutBack$Reader" "length" "I") (by decide +kernel)) (fun _ h9 => h9) rfl (by decide +kernel) rfl rfl (Nat.le_of_ble_eq_true rfl) dX11_text_43 (fun H locs hP _ hS => ?_)
    have hP : va_P (dC, dI) cls ws H := by rw [← zSame he2]; exact hP
    refine lv_iload_n hx hb dX11_text_46 rfl (lv_at hl 0 rfl) ?_
    refine lv_if_eq (tgt := 57) hx hb dX11_text_47 (by decide) (fun c_9 => ?_) (fun c_9 => ?_)
    · exact (by revert c_9; decide : False).elim
    refine lv_aload_n hx hb dX11_text_50 rfl (lv_at hl 1 rfl) ?_
    refine va_get (D := (dC, dI)) (ci := 6) (v := .int 0) (C := RX6) (T := TX6) (N := 2) hx hb hts ik_text_RX6 hown hK hP s_4_k s_4_h rfl 1 (by decide) (hts (.fieldLink RX11 86 "PutBack$Text" "length" "I") (by decide +kernel)) (fun _ h9 => h9) rfl dX11_text_51 ?_
    refine lv_goto (tgt := 58) hx hb dX11_text_54 (by decide) ?_
    have hP9 := hP
    have hD9 := hD
    have hK9 := hK
    exact W.iret (v := 0) hx hb hr (fun t ht hW => ⟨⟨0, (), rfl, (by simp [sp_text, f_2]), by rw [ht]; exact hP9, va_K.moved hW.alike hK9, hD9⟩, hS.F ht⟩) hS.2.2 dX11_text_58
  · skip
    refine W.eq (g2 := F0 m 5 ls [.null]) rfl ?_
    refine lv_astore_nN (lv' := [(2, .null), (0, .ref h0), (1, .int v1)]) hx hb dX11_text_5 rfl hl (by decide) rfl (fun ls hl => ?_)
    refine lv_aload_nN hx hb dX11_text_6 rfl (lv_at hl 0 rfl) ?_
    refine lv_ifnullN (tgt := 24) hx hb dX11_text_7 (by decide) ?_
    refine lv_iconst (v := 0) hx hb dX11_text_24 (by decide) ?_
    refine lv_istore_n (lv' := [(3, .int 0), (2, .null), (0, .ref h0), (1, .int v1)]) hx hb dX11_text_25 rfl hl (by decide) rfl (fun ls hl => ?_)
    refine lv_iload_n hx hb dX11_text_26 rfl (lv_at hl 0 rfl) ?_
    refine lv_if_eq (tgt := 38) hx hb dX11_text_27 (by decide) (fun c_10 => ?_) (fun c_10 => ?_)
    rotate_left
    · exact (by revert c_10; decide : False).elim
    refine lv_aload_n hx hb dX11_text_38 rfl (lv_at hl 2 rfl) ?_
    refine va_get (D := (dC, dI)) (ci := 11) (v := .ref rd) (C := RX11) (T := TX11) (N := 6) hx hb hts ik_text_RX11 hown hK hP k0 he0 rfl 2 (by decide) (hts (.fieldLink RX11 27 "PutBack" "reader" "LPutBack$Reader;") (by decide +kernel)) (fun _ h9 => h9) rfl dX11_text_39 ?_
    refine lv_iconst (v := 0) hx hb dX11_text_42 (by decide) ?_
    refine va_put (D := (dC, dI)) (ci := 4) (v := .int 0) (ty := .int) (C := RX4) (T := TX4) (N := 14) hx hb hts ik_text_RX4 tyX4 tyX4_ok nmX4 hown hK hP hD hS k2 he2 rfl 2 (by decide) (hts (.fieldLink RX11 53 "PutBack$Reader" "length" "I") (by decide +kernel)) (fun _ h9 => h9) rfl (by decide +kernel) rfl rfl (Nat.le_of_ble_eq_true rfl) dX11_text_43 (fun H locs hP _ hS => ?_)
    have hP : va_P (dC, dI) cls ws H := by rw [← zSame he2]; exact hP
    refine lv_iload_n hx hb dX11_text_46 rfl (lv_at hl 0 rfl) ?_
    refine lv_if_eq (tgt := 57) hx hb dX11_text_47 (by decide) (fun c_11 => ?_) (fun c_11 => ?_)
    rotate_left
    · exact (by revert c_11; decide : False).elim
    refine lv_iconst (v := (-1)) hx hb dX11_text_57 (by decide) ?_
    have hP9 := hP
    have hD9 := hD
    have hK9 := hK
    exact W.iret (v := (-1)) hx hb hr (fun t ht hW => ⟨⟨(-1), (), rfl, (by simp [sp_text, f_2]), by rw [ht]; exact hP9, va_K.moved hW.alike hK9, hD9⟩, hS.F ht⟩) hS.2.2 dX11_text_58
def wk_symbol : List Cond := .code yX11_symbol cX11_symbol 4 (some .int) :: ([.methodLink RX11 74 yX11_slotAt, .instanceMethod yX11_slotAt, .selects RX11 yX11_slotAt yX11_slotAt, .initialized RX11, .code yX11_slotAt cX11_slotAt 2 (some (.object "PutBack$Text")), .fieldLink RX11 11 "PutBack" "slots" "[LPutBack$Text;", .fieldLink RX11 86 "PutBack$Text" "length" "I"] ++ wsX60 ++ wsX110)
theorem ik_symbol_RX6 : ∀ w ∈ u_ws RX6 TX6 2, w ∈ wk_symbol := fun w h => List.mem_cons_of_mem _ (List.mem_append_left _ (List.mem_append_right _ h))
theorem ik_symbol_RX11 : ∀ w ∈ u_ws RX11 TX11 6, w ∈ wk_symbol := fun w h => List.mem_cons_of_mem _ (List.mem_append_right _ h)
theorem gk_symbol_74g : GoodIn wk_symbol ws_slotAt := goodIn_r _ [5, 6, 10, 11, 12, 13, 14, 15] (by decide +kernel) (by decide +kernel)
theorem gk_symbol_74 : GoodIn wk_symbol (wsV RX11 74 RX11 yX11_slotAt ws_slotAt) := goodIn_app (goodIn_of _ (by decide +kernel)) gk_symbol_74g
set_option maxHeartbeats 4000000 in
set_option maxRecDepth 100000 in
theorem k_symbol (l : Launch) (dC : Nat → ClassId) (dI : Nat → Nat → Nat) (sz : Nat) (h0 : Nat) (v1 : Int32) (v2 : Int32) (sl : Nat) (walker_ : Nat) (rd : Nat) (machine_ : Nat) (trial_ : Nat) (dk : Nat) (cT : ClassId) (fT : Nat → Option Nat)  (ws : va_W) (tl : List (ClassId × FieldType)) (k0 : Nat) (he0 : ws[k0]? = some (h0, .inr (11, [.ref sl, .ref walker_, .ref rd, .ref machine_, .ref trial_, .ref dk]))) (k1 : Nat) (he1 : ws[k1]? = some (sl, .inl (cT, 8, .inr (.inr (.inr (.inr fT)))))) (t0 : Nat) (ht0 : tl[t0]? = some (cT, .object RX6)) (hfs : ∀ i : Int32, inS i → ∃ (t r : Nat) (cc1 : ClassId) (g1 : Nat → Int32) (k k2 k3 : Nat), fT i.toNatClampNeg = some t ∧ ws[k]? = some (t, .inr (6, [.ref r, .int 0])) ∧ ws[k2]? = some (r, .inl (cc1, 60, .inl g1)) ∧ tl[k3]? = some (cc1, .byte)) : Met l yX11_symbol wk_symbol ({ frames := 1, cells := 0, slots := 0, locals := 21 } : Room) (va_Pc [.ref h0, .int v1, .int v2] (fun U => U.heap.size = sz ∧ va_P (dC, dI) cls ws U.heap ∧ va_K (dC, dI) cls tl U ∧ va_D (fun _ => True) ws)) (va_Qi (fun (r : Int32) (_ : Unit) => r = sp_symbol v1 v2) (fun (_ : Unit) t => va_P (dC, dI) cls ws t.heap ∧ va_K (dC, dI) cls tl t ∧ va_D (va_A ws sz) ws) (va_A ws sz)) 0 0 (va_A ws sz) := by
  refine Met.ofW (cc := cX11_symbol) (maxL := 4) (ret := (some .int)) (by decide) rfl ?_
  intro p e s m args below meth c s₁ B hml hv
  obtain ⟨rfl, hsz, hP, hK, hD0⟩ := hv
  have hx := B.exec
  have hb := B.bytes
  have hr := B.returns
  have hts := atoms_spec (ws := wk_symbol) B.pre
  have hown : s.vm.findClass RX11 = some m.cls := findClass_of_methodNamed B.named
  have hlocks := B.notSynchronized
  subst hsz
  have hD := hD0.self (sz := s.heap.size)
  generalize hAe : va_A ws s.heap.size = A at hD ⊢
  have hA : ∀ q : Nat, s.heap.size ≤ q → A q := fun q h => by rw [← hAe]; exact Or.inr h
  have hP : va_P (dC, dI) cls ws s.heap := hP
  have hl := lv_entry ([.ref h0, .int v1, .int v2]) (n := 4) (Nat.le_of_ble_eq_true rfl)
  rw [lg_entry_eq]
  generalize (lg_sl ([.ref h0, .int v1, .int v2]) ++ List.replicate (4 - (lg_sl ([.ref h0, .int v1, .int v2])).length) Slot.unset).toArray = ls at hl ⊢
  have hl : lv_has ls 4 [(0, .ref h0), (1, .int v1), (2, .int v2)] := hl
  obtain ⟨H, hH⟩ : ∃ H : Heap, s.heap = H := ⟨_, rfl⟩
  rw [hH] at hP ⊢
  have hS : va_S A s.heap H [] := by rw [← hH]; exact va_S.rf
  have hf : ∀ i : Int32, inS i → ∃ t, fT i.toNatClampNeg = some t := fun i h => by obtain ⟨t, _, _, _, _, _, _, e, _⟩ := hfs i h; exact ⟨t, e⟩
  refine lv_aload_n hx hb dX11_symbol_0 rfl (lv_at hl 0 rfl) ?_
  refine lv_iload_n hx hb dX11_symbol_1 rfl (lv_at hl 1 rfl) ?_
  have hFc := zFree hD hS hA
  refine va_callq (va_runV (As := [.int v1]) (rest := []) ⟨hx, hb, hml, hown, hts⟩ (s_slotAt l dC dI H.size h0 v1 sl walker_ rd machine_ trial_ dk cT fT ws tl k0 he0 k1 he1 t0 ht0 hf) (cwV 1 hts gk_symbol_74 rfl rfl rfl (by decide +kernel) ⟨Nat.le_of_ble_eq_true rfl, Nat.le_of_ble_eq_true rfl⟩) ⟨fun a U g mk q => by obtain ⟨q0, q1, qP, qK, qD⟩ := q; exact ⟨q0, q1, qP, va_K.moved (u := U) (U := U.calling g mk a) (Vm.Alike.refl U.vm) qK, qD⟩, va_recv hK hP (ci := 11) (q0 := k0) rfl he0, fun U hU hW => ⟨rfl, by rw [hU], by rw [hU]; exact hP, va_K.moved hW.alike hK, hD.weaken (fun _ _ _ _ => trivial)⟩⟩ rfl rfl hl.1 rfl (lv_room (Nat.le_of_ble_eq_true rfl)) dX11_symbol_2 ⟨Nat.le_of_ble_eq_true rfl, Nat.le_of_ble_eq_true rfl⟩) hS (fun q _ h => hFc q h) hFc (fun r_1 u t H1 locs ht hvm hw hB hz1 hk1 hS => ?_)
  obtain ⟨hP, hK1, hD1⟩ := hB
  rw [ht] at hP
  try dsimp only at hw
  clear hk1 hz1 hFc hD1 hK1
  generalize H1 = H at hP hS ⊢
  rcases hw with ⟨f_2, rfl⟩ | ⟨f_2, rfl⟩
  · skip
    obtain ⟨t_3, et_3⟩ := hf v1 f_2
    refine W.eq (g2 := F0 m 5 ls [.ref t_3]) (by rw [et_3]; rfl) ?_
    obtain ⟨s_4_t, s_4_r, s_4_c, s_4_g, s_4_k, s_4_k2, s_4_k3, s_4_e, s_4_h, s_4_h2, s_4_h3⟩ := hfs v1 f_2
    obtain rfl : t_3 = s_4_t := Option.some.inj (et_3.symm.trans s_4_e)
    refine lv_astore_n (lv' := [(3, .ref t_3), (0, .ref h0), (1, .int v1), (2, .int v2)]) hx hb dX11_symbol_5 rfl hl (by decide) rfl (fun ls hl => ?_)
    refine lv_aload_n hx hb dX11_symbol_6 rfl (lv_at hl 0 rfl) ?_
    refine lv_ifnonnull (tgt := 12) hx hb dX11_symbol_7 (by decide) ?_
    refine lv_iload_n hx hb dX11_symbol_12 rfl (lv_at hl 3 rfl) ?_
    refine lv_iconst (v := (-1)) hx hb dX11_symbol_13 (by decide) ?_
    refine lv_icmp_ne (tgt := 22) hx hb dX11_symbol_14 (by decide) (fun c_5 => ?_) (fun c_5 => ?_)
    · skip
      refine lv_iload_n hx hb dX11_symbol_22 rfl (lv_at hl 3 rfl) ?_
      refine lv_if_lt (tgt := 46) hx hb dX11_symbol_23 (by decide) (fun c_6 => ?_) (fun c_6 => ?_)
      · skip
        refine lv_iconst (v := (-1)) hx hb dX11_symbol_46 (by decide) ?_
        have hP9 := hP
        have hD9 := hD
        have hK9 := hK
        exact W.iret (v := (-1)) hx hb hr (fun t ht hW => ⟨⟨(-1), (), rfl, (by simp [sp_symbol, f_2, c_5]), by rw [ht]; exact hP9, va_K.moved hW.alike hK9, hD9⟩, hS.F ht⟩) hS.2.2 dX11_symbol_47
      · skip
        refine lv_iload_n hx hb dX11_symbol_26 rfl (lv_at hl 3 rfl) ?_
        refine lv_aload_n hx hb dX11_symbol_27 rfl (lv_at hl 0 rfl) ?_
        refine va_get (D := (dC, dI)) (ci := 6) (v := .int 0) (C := RX6) (T := TX6) (N := 2) hx hb hts ik_symbol_RX6 hown hK hP s_4_k s_4_h rfl 1 (by decide) (hts (.fieldLink RX11 86 "PutBack$Text" "length" "I") (by decide +kernel)) (fun _ h9 => h9) rfl dX11_symbol_28 ?_
        refine lv_icmp_ge (tgt := 46) hx hb dX11_symbol_31 (by decide) (fun c_7 => ?_) (fun c_7 => ?_)
        · skip
          refine lv_iconst (v := (-1)) hx hb dX11_symbol_46 (by decide) ?_
          have hP9 := hP
          have hD9 := hD
          have hK9 := hK
          exact W.iret (v := (-1)) hx hb hr (fun t ht hW => ⟨⟨(-1), (), rfl, (by simp [sp_symbol, f_2, c_5]), by rw [ht]; exact hP9, va_K.moved hW.alike hK9, hD9⟩, hS.F ht⟩) hS.2.2 dX11_symbol_47
        · exact absurd (Int32.not_lt.mp c_6) c_7
    · skip
      refine lv_aload_n hx hb dX11_symbol_17 rfl (lv_at hl 0 rfl) ?_
      refine va_get (D := (dC, dI)) (ci := 6) (v := .int 0) (C := RX6) (T := TX6) (N := 2) hx hb hts ik_symbol_RX6 hown hK hP s_4_k s_4_h rfl 1 (by decide) (hts (.fieldLink RX11 86 "PutBack$Text" "length" "I") (by decide +kernel)) (fun _ h9 => h9) rfl dX11_symbol_18 ?_
      have hP9 := hP
      have hD9 := hD
      have hK9 := hK
      exact W.iret (v := 0) hx hb hr (fun t ht hW => ⟨⟨0, (), rfl, (by simp [sp_symbol, f_2, c_5]), by rw [ht]; exact hP9, va_K.moved hW.alike hK9, hD9⟩, hS.F ht⟩) hS.2.2 dX11_symbol_21
  · skip
    refine W.eq (g2 := F0 m 5 ls [.null]) rfl ?_
    refine lv_astore_nN (lv' := [(3, .null), (0, .ref h0), (1, .int v1), (2, .int v2)]) hx hb dX11_symbol_5 rfl hl (by decide) rfl (fun ls hl => ?_)
    refine lv_aload_nN hx hb dX11_symbol_6 rfl (lv_at hl 0 rfl) ?_
    refine lv_ifnonnullN hx hb dX11_symbol_7 ?_
    refine lv_iconst (v := (-1)) hx hb dX11_symbol_10 (by decide) ?_
    have hP9 := hP
    have hD9 := hD
    have hK9 := hK
    exact W.iret (v := (-1)) hx hb hr (fun t ht hW => ⟨⟨(-1), (), rfl, (by simp [sp_symbol, f_2]), by rw [ht]; exact hP9, va_K.moved hW.alike hK9, hD9⟩, hS.F ht⟩) hS.2.2 dX11_symbol_11
def wk_join : List Cond := .code yX11_join cX11_join 7 (some .int) :: ([.methodLink RX11 74 yX11_slotAt, .instanceMethod yX11_slotAt, .selects RX11 yX11_slotAt yX11_slotAt, .initialized RX11, .code yX11_slotAt cX11_slotAt 2 (some (.object "PutBack$Text")), .fieldLink RX11 11 "PutBack" "slots" "[LPutBack$Text;", .fieldLink RX11 48 "PutBack" "desk" "LPutBack$Desk;", .fieldLink RX11 244 "PutBack$Desk" "spare" "LPutBack$Text;", .fieldLink RX11 86 "PutBack$Text" "length" "I", .methodLink RX11 247 yX6_splice, .instanceMethod yX6_splice, .selects RX6 yX6_splice yX6_splice, .initialized RX6, .code yX6_splice cX6_splice 6 (some .boolean), .methodLink RX6 29 yX6_reaches, .instanceMethod yX6_reaches, .selects RX6 yX6_reaches yX6_reaches, .code yX6_reaches cX6_reaches 3 (some .boolean), .fieldLink RX6 21 "PutBack$Text" "length" "I", .fieldLink RX6 9 "PutBack$Text" "ranks" "[B", .methodLink RX6 15 arraycopyName, .native arraycopyName, .static arraycopyName, .initialized "java/lang/System", .methodLink RX11 229 yX6_become, .instanceMethod yX6_become, .selects RX6 yX6_become yX6_become, .code yX6_become cX6_become 2 none, .methodLink RX6 25 yX6_fill, .instanceMethod yX6_fill, .selects RX6 yX6_fill yX6_fill, .code yX6_fill cX6_fill 4 none] ++ wsX00 ++ wsX60 ++ wsX110)
theorem ik_join_RX0 : ∀ w ∈ u_ws RX0 TX0 15, w ∈ wk_join := fun w h => List.mem_cons_of_mem _ (List.mem_append_left _ (List.mem_append_left _ (List.mem_append_right _ h)))
theorem ik_join_RX6 : ∀ w ∈ u_ws RX6 TX6 2, w ∈ wk_join := fun w h => List.mem_cons_of_mem _ (List.mem_append_left _ (List.mem_append_right _ h))
theorem ik_join_RX11 : ∀ w ∈ u_ws RX11 TX11 6, w ∈ wk_join := fun w h => List.mem_cons_of_mem _ (List.mem_append_right _ h)
theorem gk_join_74g : GoodIn wk_join ws_slotAt := goodIn_r _ [5, 6, 50, 51, 52, 53, 54, 55] (by decide +kernel) (by decide +kernel)
theorem gk_join_74 : GoodIn wk_join (wsV RX11 74 RX11 yX11_slotAt ws_slotAt) := goodIn_app (goodIn_of _ (by decide +kernel)) gk_join_74g
theorem gk_join_247g : GoodIn wk_join ws_splice := goodIn_r _ [14, 15, 16, 17, 13, 18, 19, 20, 21, 22, 23, 24, 48, 49] (by decide +kernel) (by decide +kernel)
theorem gk_join_247 : GoodIn wk_join (wsV RX11 247 RX6 yX6_splice ws_splice) := goodIn_app (goodIn_of _ (by decide +kernel)) gk_join_247g
theorem gk_join_229g : GoodIn wk_join ws_become := goodIn_r _ [28, 20, 19, 29, 30, 31, 13, 32, 21, 22, 23, 24, 48, 49] (by decide +kernel) (by decide +kernel)
theorem gk_join_229 : GoodIn wk_join (wsV RX11 229 RX6 yX6_become ws_become) := goodIn_app (goodIn_of _ (by decide +kernel)) gk_join_229g
set_option maxHeartbeats 4000000 in
set_option maxRecDepth 100000 in
theorem k_join (l : Launch) (dC : Nat → ClassId) (dI : Nat → Nat → Nat) (sz : Nat) (h0 : Nat) (v1 : Int32) (v2 : Int32) (v3 : Int32) (sl : Nat) (walker_ : Nat) (rd : Nat) (machine_ : Nat) (trial_ : Nat) (dk : Nat) (cT : ClassId) (fT : Nat → Option Nat) (source_ : Nat) (view_ : Nat) (txs : Nat) (outcome_ : Nat) (oldSources_ : Nat) (oldViews_ : Nat) (rs : Nat) (cs : ClassId) (fs : Nat → Int32)  (ws : va_W) (tl : List (ClassId × FieldType)) (k0 : Nat) (he0 : ws[k0]? = some (h0, .inr (11, [.ref sl, .ref walker_, .ref rd, .ref machine_, .ref trial_, .ref dk]))) (k1 : Nat) (he1 : ws[k1]? = some (sl, .inl (cT, 8, .inr (.inr (.inr (.inr fT)))))) (k2 : Nat) (he2 : ws[k2]? = some (dk, .inr (0, [.null, .int (-1), .int 0, .int 0, .int 0, .int 0, .int 0, .int 0, .ref source_, .ref view_, .ref txs, .ref outcome_, .ref oldSources_, .ref oldViews_, .int 0]))) (k3 : Nat) (he3 : ws[k3]? = some (txs, .inr (6, [.ref rs, .int 0]))) (k4 : Nat) (he4 : ws[k4]? = some (rs, .inl (cs, 60, .inl fs))) (t0 : Nat) (ht0 : tl[t0]? = some (cT, .object RX6)) (t1 : Nat) (ht1 : tl[t1]? = some (cs, .byte)) (hfs : ∀ i : Int32, inS i → ∃ (t r : Nat) (cc1 : ClassId) (g1 : Nat → Int32) (k k2 k3 : Nat), fT i.toNatClampNeg = some t ∧ ws[k]? = some (t, .inr (6, [.ref r, .int 0])) ∧ ws[k2]? = some (r, .inl (cc1, 60, .inl g1)) ∧ tl[k3]? = some (cc1, .byte)) : Met l yX11_join wk_join ({ frames := 3, cells := 0, slots := 0, locals := 104 } : Room) (va_Pc [.ref h0, .int v1, .int v2, .int v3] (fun U => U.heap.size = sz ∧ va_P (dC, dI) cls ws U.heap ∧ va_K (dC, dI) cls tl U ∧ va_D (fun _ => True) ws)) (va_Qi (fun (r : Int32) (_ : Unit) => r = sp_join v1 v2 v3) (fun (_ : Unit) t => va_P (dC, dI) cls ws t.heap ∧ va_K (dC, dI) cls tl t ∧ va_D (va_A ws sz) ws) (va_A ws sz)) 0 0 (va_A ws sz) := by
  refine Met.ofW (cc := cX11_join) (maxL := 7) (ret := (some .int)) (by decide) rfl ?_
  intro p e s m args below meth c s₁ B hml hv
  obtain ⟨rfl, hsz, hP, hK, hD0⟩ := hv
  have hx := B.exec
  have hb := B.bytes
  have hr := B.returns
  have hts := atoms_spec (ws := wk_join) B.pre
  have hown : s.vm.findClass RX11 = some m.cls := findClass_of_methodNamed B.named
  have hlocks := B.notSynchronized
  subst hsz
  have hD := hD0.self (sz := s.heap.size)
  generalize hAe : va_A ws s.heap.size = A at hD ⊢
  have hA : ∀ q : Nat, s.heap.size ≤ q → A q := fun q h => by rw [← hAe]; exact Or.inr h
  have hP : va_P (dC, dI) cls ws s.heap := hP
  have hl := lv_entry ([.ref h0, .int v1, .int v2, .int v3]) (n := 7) (Nat.le_of_ble_eq_true rfl)
  rw [lg_entry_eq]
  generalize (lg_sl ([.ref h0, .int v1, .int v2, .int v3]) ++ List.replicate (7 - (lg_sl ([.ref h0, .int v1, .int v2, .int v3])).length) Slot.unset).toArray = ls at hl ⊢
  have hl : lv_has ls 7 [(0, .ref h0), (1, .int v1), (2, .int v2), (3, .int v3)] := hl
  obtain ⟨H, hH⟩ : ∃ H : Heap, s.heap = H := ⟨_, rfl⟩
  rw [hH] at hP ⊢
  have hS : va_S A s.heap H [] := by rw [← hH]; exact va_S.rf
  have hf : ∀ i : Int32, inS i → ∃ t, fT i.toNatClampNeg = some t := fun i h => by obtain ⟨t, _, _, _, _, _, _, e, _⟩ := hfs i h; exact ⟨t, e⟩
  refine lv_aload_n hx hb dX11_join_0 rfl (lv_at hl 0 rfl) ?_
  refine lv_iload_n hx hb dX11_join_1 rfl (lv_at hl 1 rfl) ?_
  have hFc := zFree hD hS hA
  refine va_callq (va_runV (As := [.int v1]) (rest := []) ⟨hx, hb, hml, hown, hts⟩ (s_slotAt l dC dI H.size h0 v1 sl walker_ rd machine_ trial_ dk cT fT ws tl k0 he0 k1 he1 t0 ht0 hf) (cwV 1 hts gk_join_74 rfl rfl rfl (by decide +kernel) ⟨Nat.le_of_ble_eq_true rfl, Nat.le_of_ble_eq_true rfl⟩) ⟨fun a U g mk q => by obtain ⟨q0, q1, qP, qK, qD⟩ := q; exact ⟨q0, q1, qP, va_K.moved (u := U) (U := U.calling g mk a) (Vm.Alike.refl U.vm) qK, qD⟩, va_recv hK hP (ci := 11) (q0 := k0) rfl he0, fun U hU hW => ⟨rfl, by rw [hU], by rw [hU]; exact hP, va_K.moved hW.alike hK, hD.weaken (fun _ _ _ _ => trivial)⟩⟩ rfl rfl hl.1 rfl (lv_room (Nat.le_of_ble_eq_true rfl)) dX11_join_2 ⟨Nat.le_of_ble_eq_true rfl, Nat.le_of_ble_eq_true rfl⟩) hS (fun q _ h => hFc q h) hFc (fun r_1 u t H1 locs ht hvm hw hB hz1 hk1 hS => ?_)
  obtain ⟨hP, hK1, hD1⟩ := hB
  rw [ht] at hP
  try dsimp only at hw
  clear hk1 hz1 hFc hD1 hK1
  generalize H1 = H at hP hS ⊢
  rcases hw with ⟨f_2, rfl⟩ | ⟨f_2, rfl⟩
  · skip
    obtain ⟨t_3, et_3⟩ := hf v1 f_2
    refine W.eq (g2 := F0 m 5 ls [.ref t_3]) (by rw [et_3]; rfl) ?_
    obtain ⟨s_4_t, s_4_r, s_4_c, s_4_g, s_4_k, s_4_k2, s_4_k3, s_4_e, s_4_h, s_4_h2, s_4_h3⟩ := hfs v1 f_2
    obtain rfl : t_3 = s_4_t := Option.some.inj (et_3.symm.trans s_4_e)
    refine lv_astore (lv' := [(4, .ref t_3), (0, .ref h0), (1, .int v1), (2, .int v2), (3, .int v3)]) hx hb dX11_join_5 hl (by decide) rfl (fun ls hl => ?_)
    refine lv_aload_n hx hb dX11_join_7 rfl (lv_at hl 1 rfl) ?_
    refine lv_iload_n hx hb dX11_join_8 rfl (lv_at hl 3 rfl) ?_
    have hFc := zFree hD hS hA
    refine va_callq (va_runV (As := [.int v2]) (rest := []) ⟨hx, hb, hml, hown, hts⟩ (s_slotAt l dC dI H.size h0 v2 sl walker_ rd machine_ trial_ dk cT fT ws tl k0 he0 k1 he1 t0 ht0 hf) (cwV 1 hts gk_join_74 rfl rfl rfl (by decide +kernel) ⟨Nat.le_of_ble_eq_true rfl, Nat.le_of_ble_eq_true rfl⟩) ⟨fun a U g mk q => by obtain ⟨q0, q1, qP, qK, qD⟩ := q; exact ⟨q0, q1, qP, va_K.moved (u := U) (U := U.calling g mk a) (Vm.Alike.refl U.vm) qK, qD⟩, va_recv hK hP (ci := 11) (q0 := k0) rfl he0, fun U hU hW => ⟨rfl, by rw [hU], by rw [hU]; exact hP, va_K.moved hW.alike hK, hD.weaken (fun _ _ _ _ => trivial)⟩⟩ rfl rfl hl.1 rfl (lv_room (Nat.le_of_ble_eq_true rfl)) dX11_join_9 ⟨Nat.le_of_ble_eq_true rfl, Nat.le_of_ble_eq_true rfl⟩) hS (fun q _ h => hFc q h) hFc (fun r_5 u t H1 locs ht hvm hw hB hz1 hk1 hS => ?_)
    obtain ⟨hP, hK1, hD1⟩ := hB
    rw [ht] at hP
    try dsimp only at hw
    clear hk1 hz1 hFc hD1 hK1
    generalize H1 = H at hP hS ⊢
    rcases hw with ⟨f_6, rfl⟩ | ⟨f_6, rfl⟩
    · skip
      obtain ⟨t_7, et_7⟩ := hf v2 f_6
      refine W.eq (g2 := F0 m 12 ls [.ref t_7]) (by rw [et_7]; rfl) ?_
      obtain ⟨s_8_t, s_8_r, s_8_c, s_8_g, s_8_k, s_8_k2, s_8_k3, s_8_e, s_8_h, s_8_h2, s_8_h3⟩ := hfs v2 f_6
      obtain rfl : t_7 = s_8_t := Option.some.inj (et_7.symm.trans s_8_e)
      refine lv_astore (lv' := [(5, .ref t_7), (4, .ref t_3), (0, .ref h0), (1, .int v1), (2, .int v2), (3, .int v3)]) hx hb dX11_join_12 hl (by decide) rfl (fun ls hl => ?_)
      refine lv_aload_n hx hb dX11_join_14 rfl (lv_at hl 2 rfl) ?_
      refine lv_iload_n hx hb dX11_join_15 rfl (lv_at hl 5 rfl) ?_
      have hFc := zFree hD hS hA
      refine va_callq (va_runV (As := [.int v3]) (rest := []) ⟨hx, hb, hml, hown, hts⟩ (s_slotAt l dC dI H.size h0 v3 sl walker_ rd machine_ trial_ dk cT fT ws tl k0 he0 k1 he1 t0 ht0 hf) (cwV 1 hts gk_join_74 rfl rfl rfl (by decide +kernel) ⟨Nat.le_of_ble_eq_true rfl, Nat.le_of_ble_eq_true rfl⟩) ⟨fun a U g mk q => by obtain ⟨q0, q1, qP, qK, qD⟩ := q; exact ⟨q0, q1, qP, va_K.moved (u := U) (U := U.calling g mk a) (Vm.Alike.refl U.vm) qK, qD⟩, va_recv hK hP (ci := 11) (q0 := k0) rfl he0, fun U hU hW => ⟨rfl, by rw [hU], by rw [hU]; exact hP, va_K.moved hW.alike hK, hD.weaken (fun _ _ _ _ => trivial)⟩⟩ rfl rfl hl.1 rfl (lv_room (Nat.le_of_ble_eq_true rfl)) dX11_join_16 ⟨Nat.le_of_ble_eq_true rfl, Nat.le_of_ble_eq_true rfl⟩) hS (fun q _ h => hFc q h) hFc (fun r_9 u t H1 locs ht hvm hw hB hz1 hk1 hS => ?_)
      obtain ⟨hP, hK1, hD1⟩ := hB
      rw [ht] at hP
      try dsimp only at hw
      clear hk1 hz1 hFc hD1 hK1
      generalize H1 = H at hP hS ⊢
      rcases hw with ⟨f_10, rfl⟩ | ⟨f_10, rfl⟩
      · skip
        obtain ⟨t_11, et_11⟩ := hf v3 f_10
        refine W.eq (g2 := F0 m 19 ls [.ref t_11]) (by rw [et_11]; rfl) ?_
        obtain ⟨s_12_t, s_12_r, s_12_c, s_12_g, s_12_k, s_12_k2, s_12_k3, s_12_e, s_12_h, s_12_h2, s_12_h3⟩ := hfs v3 f_10
        obtain rfl : t_11 = s_12_t := Option.some.inj (et_11.symm.trans s_12_e)
        refine lv_astore (lv' := [(6, .ref t_11), (5, .ref t_7), (4, .ref t_3), (0, .ref h0), (1, .int v1), (2, .int v2), (3, .int v3)]) hx hb dX11_join_19 hl (by decide) rfl (fun ls hl => ?_)
        refine lv_aload hx hb dX11_join_21 (lv_at hl 2 rfl) ?_
        refine lv_ifnull hx hb dX11_join_23 ?_
        refine lv_aload hx hb dX11_join_26 (lv_at hl 1 rfl) ?_
        refine lv_ifnull hx hb dX11_join_28 ?_
        refine lv_aload hx hb dX11_join_31 (lv_at hl 0 rfl) ?_
        refine lv_ifnull hx hb dX11_join_33 ?_
        refine lv_aload_n hx hb dX11_join_36 rfl (lv_at hl 3 rfl) ?_
        refine va_get (D := (dC, dI)) (ci := 11) (v := .ref dk) (C := RX11) (T := TX11) (N := 6) hx hb hts ik_join_RX11 hown hK hP k0 he0 rfl 5 (by decide) (hts (.fieldLink RX11 48 "PutBack" "desk" "LPutBack$Desk;") (by decide +kernel)) (fun _ h9 => h9) rfl dX11_join_37 ?_
        refine va_get (D := (dC, dI)) (ci := 0) (v := .ref txs) (C := RX0) (T := TX0) (N := 15) hx hb hts ik_join_RX0 hown hK hP k2 he2 rfl 10 (by decide) (hts (.fieldLink RX11 244 "PutBack$Desk" "spare" "LPutBack$Text;") (by decide +kernel)) (fun _ h9 => h9) rfl dX11_join_40 ?_
        refine lv_aload hx hb dX11_join_43 (lv_at hl 2 rfl) ?_
        refine lv_aload hx hb dX11_join_45 (lv_at hl 2 rfl) ?_
        refine va_get (D := (dC, dI)) (ci := 6) (v := .int 0) (C := RX6) (T := TX6) (N := 2) hx hb hts ik_join_RX6 hown hK hP s_4_k s_4_h rfl 1 (by decide) (hts (.fieldLink RX11 86 "PutBack$Text" "length" "I") (by decide +kernel)) (fun _ h9 => h9) rfl dX11_join_47 ?_
        refine lv_iconst (v := 0) hx hb dX11_join_50 (by decide) ?_
        refine lv_aload hx hb dX11_join_51 (lv_at hl 1 rfl) ?_
        have hFc := zFree hD hS hA
        refine va_calli (va_runV (As := [.ref t_3, .int 0, .int 0, .ref t_7]) (rest := []) ⟨hx, hb, hml, hown, hts⟩ (s_splice l dC dI H.size txs t_3 t_7 rs cs fs s_4_r s_4_c s_4_g s_8_r s_8_c s_8_g ws tl k3 he3 k4 he4 s_4_k s_4_h s_4_k2 s_4_h2 s_8_k s_8_h s_8_k2 s_8_h2 t1 ht1 s_4_k3 s_4_h3 s_8_k3 s_8_h3) (cwV 4 hts gk_join_247 rfl rfl rfl (by decide +kernel) ⟨Nat.le_of_ble_eq_true rfl, Nat.le_of_ble_eq_true rfl⟩) ⟨fun a U g mk q => by obtain ⟨q0, q1, qP, qK, qD⟩ := q; exact ⟨q0, q1, qP, va_K.moved (u := U) (U := U.calling g mk a) (Vm.Alike.refl U.vm) qK, qD⟩, va_recv hK hP (ci := 6) (q0 := k3) rfl he3, fun U hU hW => ⟨rfl, by rw [hU], by rw [hU]; exact hP, va_K.moved hW.alike hK, hD.weaken (fun _ _ _ _ => trivial)⟩⟩ rfl rfl hl.1 rfl (lv_room (Nat.le_of_ble_eq_true rfl)) dX11_join_53 ⟨Nat.le_of_ble_eq_true rfl, Nat.le_of_ble_eq_true rfl⟩) hS (fun q _ h => hFc q h) hFc (fun r_13 u t H1 locs ht hvm hw hB hz1 hk1 hS => ?_)
        obtain ⟨hP, hK1, hD1⟩ := hB
        rw [ht] at hP
        try dsimp only at hw
        clear hk1 hz1 hFc hD1 hK1
        generalize H1 = H at hP hS ⊢
        obtain rfl := hw
        refine lv_if_ne (tgt := 61) hx hb dX11_join_56 (by decide) (fun c_14 => ?_) (fun c_14 => ?_)
        rotate_left
        · exact (by revert c_14; decide : False).elim
        refine lv_aload hx hb dX11_join_61 (lv_at hl 0 rfl) ?_
        refine lv_aload_n hx hb dX11_join_63 rfl (lv_at hl 3 rfl) ?_
        refine va_get (D := (dC, dI)) (ci := 11) (v := .ref dk) (C := RX11) (T := TX11) (N := 6) hx hb hts ik_join_RX11 hown hK hP k0 he0 rfl 5 (by decide) (hts (.fieldLink RX11 48 "PutBack" "desk" "LPutBack$Desk;") (by decide +kernel)) (fun _ h9 => h9) rfl dX11_join_64 ?_
        refine va_get (D := (dC, dI)) (ci := 0) (v := .ref txs) (C := RX0) (T := TX0) (N := 15) hx hb hts ik_join_RX0 hown hK hP k2 he2 rfl 10 (by decide) (hts (.fieldLink RX11 244 "PutBack$Desk" "spare" "LPutBack$Text;") (by decide +kernel)) (fun _ h9 => h9) rfl dX11_join_67 ?_
        have hFc := zFree hD hS hA
        refine va_callv (va_runV (As := [.ref txs]) (rest := []) ⟨hx, hb, hml, hown, hts⟩ (s_become l dC dI H.size t_11 txs s_12_r s_12_c s_12_g rs cs fs ws tl s_12_k s_12_h s_12_k2 s_12_h2 k3 he3 k4 he4 s_12_k3 s_12_h3 t1 ht1) (cwV 1 hts gk_join_229 rfl rfl rfl (by decide +kernel) ⟨Nat.le_of_ble_eq_true rfl, Nat.le_of_ble_eq_true rfl⟩) ⟨fun a U g mk q => by obtain ⟨q0, q1, qP, qK, qD⟩ := q; exact ⟨q0, q1, qP, va_K.moved (u := U) (U := U.calling g mk a) (Vm.Alike.refl U.vm) qK, qD⟩, va_recv hK hP (ci := 6) (q0 := s_12_k) rfl s_12_h, fun U hU hW => ⟨rfl, by rw [hU], by rw [hU]; exact hP, va_K.moved hW.alike hK, hD.weaken (fun _ _ _ _ => trivial)⟩⟩ rfl rfl hl.1 rfl (lv_room (Nat.le_of_ble_eq_true rfl)) dX11_join_70 ⟨Nat.le_of_ble_eq_true rfl, Nat.le_of_ble_eq_true rfl⟩) hS (fun q _ h => hFc q h) hFc (fun u t H1 locs ht hvm hw hB hz1 hk1 hS => ?_)
        obtain ⟨hP, hK1, hD1⟩ := hB
        rw [ht] at hP
        try dsimp only at hw
        clear hk1 hz1 hFc hD1 hK1
        generalize H1 = H at hP hS ⊢
        refine lv_aload hx hb dX11_join_73 (lv_at hl 0 rfl) ?_
        refine va_get (D := (dC, dI)) (ci := 6) (v := .int 0) (C := RX6) (T := TX6) (N := 2) hx hb hts ik_join_RX6 hown hK hP s_12_k s_12_h rfl 1 (by decide) (hts (.fieldLink RX11 86 "PutBack$Text" "length" "I") (by decide +kernel)) (fun _ h9 => h9) rfl dX11_join_75 ?_
        have hP9 := hP
        have hD9 := hD
        have hK9 := hK
        exact W.iret (v := 0) hx hb hr (fun t ht hW => ⟨⟨0, (), rfl, (by simp [sp_join, f_2, f_6, f_10]), by rw [ht]; exact hP9, va_K.moved hW.alike hK9, hD9⟩, hS.F ht⟩) hS.2.2 dX11_join_78
      · skip
        refine W.eq (g2 := F0 m 19 ls [.null]) rfl ?_
        refine lv_astoreN (lv' := [(6, .null), (5, .ref t_7), (4, .ref t_3), (0, .ref h0), (1, .int v1), (2, .int v2), (3, .int v3)]) hx hb dX11_join_19 hl (by decide) rfl (fun ls hl => ?_)
        refine lv_aload hx hb dX11_join_21 (lv_at hl 2 rfl) ?_
        refine lv_ifnull hx hb dX11_join_23 ?_
        refine lv_aload hx hb dX11_join_26 (lv_at hl 1 rfl) ?_
        refine lv_ifnull hx hb dX11_join_28 ?_
        refine lv_aloadN hx hb dX11_join_31 (lv_at hl 0 rfl) ?_
        refine lv_ifnullN (tgt := 59) hx hb dX11_join_33 (by decide) ?_
        refine lv_iconst (v := (-1)) hx hb dX11_join_59 (by decide) ?_
        have hP9 := hP
        have hD9 := hD
        have hK9 := hK
        exact W.iret (v := (-1)) hx hb hr (fun t ht hW => ⟨⟨(-1), (), rfl, (by simp [sp_join, f_2, f_6, f_10]), by rw [ht]; exact hP9, va_K.moved hW.alike hK9, hD9⟩, hS.F ht⟩) hS.2.2 dX11_join_60
    · skip
      refine W.eq (g2 := F0 m 12 ls [.null]) rfl ?_
      refine lv_astoreN (lv' := [(5, .null), (4, .ref t_3), (0, .ref h0), (1, .int v1), (2, .int v2), (3, .int v3)]) hx hb dX11_join_12 hl (by decide) rfl (fun ls hl => ?_)
      refine lv_aload_n hx hb dX11_join_14 rfl (lv_at hl 2 rfl) ?_
      refine lv_iload_n hx hb dX11_join_15 rfl (lv_at hl 5 rfl) ?_
      have hFc := zFree hD hS hA
      refine va_callq (va_runV (As := [.int v3]) (rest := []) ⟨hx, hb, hml, hown, hts⟩ (s_slotAt l dC dI H.size h0 v3 sl walker_ rd machine_ trial_ dk cT fT ws tl k0 he0 k1 he1 t0 ht0 hf) (cwV 1 hts gk_join_74 rfl rfl rfl (by decide +kernel) ⟨Nat.le_of_ble_eq_true rfl, Nat.le_of_ble_eq_true rfl⟩) ⟨fun a U g mk q => by obtain ⟨q0, q1, qP, qK, qD⟩ := q; exact ⟨q0, q1, qP, va_K.moved (u := U) (U := U.calling g mk a) (Vm.Alike.refl U.vm) qK, qD⟩, va_recv hK hP (ci := 11) (q0 := k0) rfl he0, fun U hU hW => ⟨rfl, by rw [hU], by rw [hU]; exact hP, va_K.moved hW.alike hK, hD.weaken (fun _ _ _ _ => trivial)⟩⟩ rfl rfl hl.1 rfl (lv_room (Nat.le_of_ble_eq_true rfl)) dX11_join_16 ⟨Nat.le_of_ble_eq_true rfl, Nat.le_of_ble_eq_true rfl⟩) hS (fun q _ h => hFc q h) hFc (fun r_16 u t H1 locs ht hvm hw hB hz1 hk1 hS => ?_)
      obtain ⟨hP, hK1, hD1⟩ := hB
      rw [ht] at hP
      try dsimp only at hw
      clear hk1 hz1 hFc hD1 hK1
      generalize H1 = H at hP hS ⊢
      rcases hw with ⟨f_17, rfl⟩ | ⟨f_17, rfl⟩
      · skip
        obtain ⟨t_18, et_18⟩ := hf v3 f_17
        refine W.eq (g2 := F0 m 19 ls [.ref t_18]) (by rw [et_18]; rfl) ?_
        obtain ⟨s_19_t, s_19_r, s_19_c, s_19_g, s_19_k, s_19_k2, s_19_k3, s_19_e, s_19_h, s_19_h2, s_19_h3⟩ := hfs v3 f_17
        obtain rfl : t_18 = s_19_t := Option.some.inj (et_18.symm.trans s_19_e)
        refine lv_astore (lv' := [(6, .ref t_18), (5, .null), (4, .ref t_3), (0, .ref h0), (1, .int v1), (2, .int v2), (3, .int v3)]) hx hb dX11_join_19 hl (by decide) rfl (fun ls hl => ?_)
        refine lv_aload hx hb dX11_join_21 (lv_at hl 2 rfl) ?_
        refine lv_ifnull hx hb dX11_join_23 ?_
        refine lv_aloadN hx hb dX11_join_26 (lv_at hl 1 rfl) ?_
        refine lv_ifnullN (tgt := 59) hx hb dX11_join_28 (by decide) ?_
        refine lv_iconst (v := (-1)) hx hb dX11_join_59 (by decide) ?_
        have hP9 := hP
        have hD9 := hD
        have hK9 := hK
        exact W.iret (v := (-1)) hx hb hr (fun t ht hW => ⟨⟨(-1), (), rfl, (by simp [sp_join, f_2, f_6, f_17]), by rw [ht]; exact hP9, va_K.moved hW.alike hK9, hD9⟩, hS.F ht⟩) hS.2.2 dX11_join_60
      · skip
        refine W.eq (g2 := F0 m 19 ls [.null]) rfl ?_
        refine lv_astoreN (lv' := [(6, .null), (5, .null), (4, .ref t_3), (0, .ref h0), (1, .int v1), (2, .int v2), (3, .int v3)]) hx hb dX11_join_19 hl (by decide) rfl (fun ls hl => ?_)
        refine lv_aload hx hb dX11_join_21 (lv_at hl 2 rfl) ?_
        refine lv_ifnull hx hb dX11_join_23 ?_
        refine lv_aloadN hx hb dX11_join_26 (lv_at hl 1 rfl) ?_
        refine lv_ifnullN (tgt := 59) hx hb dX11_join_28 (by decide) ?_
        refine lv_iconst (v := (-1)) hx hb dX11_join_59 (by decide) ?_
        have hP9 := hP
        have hD9 := hD
        have hK9 := hK
        exact W.iret (v := (-1)) hx hb hr (fun t ht hW => ⟨⟨(-1), (), rfl, (by simp [sp_join, f_2, f_6, f_17]), by rw [ht]; exact hP9, va_K.moved hW.alike hK9, hD9⟩, hS.F ht⟩) hS.2.2 dX11_join_60
  · skip
    refine W.eq (g2 := F0 m 5 ls [.null]) rfl ?_
    refine lv_astoreN (lv' := [(4, .null), (0, .ref h0), (1, .int v1), (2, .int v2), (3, .int v3)]) hx hb dX11_join_5 hl (by decide) rfl (fun ls hl => ?_)
    refine lv_aload_n hx hb dX11_join_7 rfl (lv_at hl 1 rfl) ?_
    refine lv_iload_n hx hb dX11_join_8 rfl (lv_at hl 3 rfl) ?_
    have hFc := zFree hD hS hA
    refine va_callq (va_runV (As := [.int v2]) (rest := []) ⟨hx, hb, hml, hown, hts⟩ (s_slotAt l dC dI H.size h0 v2 sl walker_ rd machine_ trial_ dk cT fT ws tl k0 he0 k1 he1 t0 ht0 hf) (cwV 1 hts gk_join_74 rfl rfl rfl (by decide +kernel) ⟨Nat.le_of_ble_eq_true rfl, Nat.le_of_ble_eq_true rfl⟩) ⟨fun a U g mk q => by obtain ⟨q0, q1, qP, qK, qD⟩ := q; exact ⟨q0, q1, qP, va_K.moved (u := U) (U := U.calling g mk a) (Vm.Alike.refl U.vm) qK, qD⟩, va_recv hK hP (ci := 11) (q0 := k0) rfl he0, fun U hU hW => ⟨rfl, by rw [hU], by rw [hU]; exact hP, va_K.moved hW.alike hK, hD.weaken (fun _ _ _ _ => trivial)⟩⟩ rfl rfl hl.1 rfl (lv_room (Nat.le_of_ble_eq_true rfl)) dX11_join_9 ⟨Nat.le_of_ble_eq_true rfl, Nat.le_of_ble_eq_true rfl⟩) hS (fun q _ h => hFc q h) hFc (fun r_20 u t H1 locs ht hvm hw hB hz1 hk1 hS => ?_)
    obtain ⟨hP, hK1, hD1⟩ := hB
    rw [ht] at hP
    try dsimp only at hw
    clear hk1 hz1 hFc hD1 hK1
    generalize H1 = H at hP hS ⊢
    rcases hw with ⟨f_21, rfl⟩ | ⟨f_21, rfl⟩
    · skip
      obtain ⟨t_22, et_22⟩ := hf v2 f_21
      refine W.eq (g2 := F0 m 12 ls [.ref t_22]) (by rw [et_22]; rfl) ?_
      obtain ⟨s_23_t, s_23_r, s_23_c, s_23_g, s_23_k, s_23_k2, s_23_k3, s_23_e, s_23_h, s_23_h2, s_23_h3⟩ := hfs v2 f_21
      obtain rfl : t_22 = s_23_t := Option.some.inj (et_22.symm.trans s_23_e)
      refine lv_astore (lv' := [(5, .ref t_22), (4, .null), (0, .ref h0), (1, .int v1), (2, .int v2), (3, .int v3)]) hx hb dX11_join_12 hl (by decide) rfl (fun ls hl => ?_)
      refine lv_aload_n hx hb dX11_join_14 rfl (lv_at hl 2 rfl) ?_
      refine lv_iload_n hx hb dX11_join_15 rfl (lv_at hl 5 rfl) ?_
      have hFc := zFree hD hS hA
      refine va_callq (va_runV (As := [.int v3]) (rest := []) ⟨hx, hb, hml, hown, hts⟩ (s_slotAt l dC dI H.size h0 v3 sl walker_ rd machine_ trial_ dk cT fT ws tl k0 he0 k1 he1 t0 ht0 hf) (cwV 1 hts gk_join_74 rfl rfl rfl (by decide +kernel) ⟨Nat.le_of_ble_eq_true rfl, Nat.le_of_ble_eq_true rfl⟩) ⟨fun a U g mk q => by obtain ⟨q0, q1, qP, qK, qD⟩ := q; exact ⟨q0, q1, qP, va_K.moved (u := U) (U := U.calling g mk a) (Vm.Alike.refl U.vm) qK, qD⟩, va_recv hK hP (ci := 11) (q0 := k0) rfl he0, fun U hU hW => ⟨rfl, by rw [hU], by rw [hU]; exact hP, va_K.moved hW.alike hK, hD.weaken (fun _ _ _ _ => trivial)⟩⟩ rfl rfl hl.1 rfl (lv_room (Nat.le_of_ble_eq_true rfl)) dX11_join_16 ⟨Nat.le_of_ble_eq_true rfl, Nat.le_of_ble_eq_true rfl⟩) hS (fun q _ h => hFc q h) hFc (fun r_24 u t H1 locs ht hvm hw hB hz1 hk1 hS => ?_)
      obtain ⟨hP, hK1, hD1⟩ := hB
      rw [ht] at hP
      try dsimp only at hw
      clear hk1 hz1 hFc hD1 hK1
      generalize H1 = H at hP hS ⊢
      rcases hw with ⟨f_25, rfl⟩ | ⟨f_25, rfl⟩
      · skip
        obtain ⟨t_26, et_26⟩ := hf v3 f_25
        refine W.eq (g2 := F0 m 19 ls [.ref t_26]) (by rw [et_26]; rfl) ?_
        obtain ⟨s_27_t, s_27_r, s_27_c, s_27_g, s_27_k, s_27_k2, s_27_k3, s_27_e, s_27_h, s_27_h2, s_27_h3⟩ := hfs v3 f_25
        obtain rfl : t_26 = s_27_t := Option.some.inj (et_26.symm.trans s_27_e)
        refine lv_astore (lv' := [(6, .ref t_26), (5, .ref t_22), (4, .null), (0, .ref h0), (1, .int v1), (2, .int v2), (3, .int v3)]) hx hb dX11_join_19 hl (by decide) rfl (fun ls hl => ?_)
        refine lv_aloadN hx hb dX11_join_21 (lv_at hl 2 rfl) ?_
        refine lv_ifnullN (tgt := 59) hx hb dX11_join_23 (by decide) ?_
        refine lv_iconst (v := (-1)) hx hb dX11_join_59 (by decide) ?_
        have hP9 := hP
        have hD9 := hD
        have hK9 := hK
        exact W.iret (v := (-1)) hx hb hr (fun t ht hW => ⟨⟨(-1), (), rfl, (by simp [sp_join, f_2, f_21, f_25]), by rw [ht]; exact hP9, va_K.moved hW.alike hK9, hD9⟩, hS.F ht⟩) hS.2.2 dX11_join_60
      · skip
        refine W.eq (g2 := F0 m 19 ls [.null]) rfl ?_
        refine lv_astoreN (lv' := [(6, .null), (5, .ref t_22), (4, .null), (0, .ref h0), (1, .int v1), (2, .int v2), (3, .int v3)]) hx hb dX11_join_19 hl (by decide) rfl (fun ls hl => ?_)
        refine lv_aloadN hx hb dX11_join_21 (lv_at hl 2 rfl) ?_
        refine lv_ifnullN (tgt := 59) hx hb dX11_join_23 (by decide) ?_
        refine lv_iconst (v := (-1)) hx hb dX11_join_59 (by decide) ?_
        have hP9 := hP
        have hD9 := hD
        have hK9 := hK
        exact W.iret (v := (-1)) hx hb hr (fun t ht hW => ⟨⟨(-1), (), rfl, (by simp [sp_join, f_2, f_21, f_25]), by rw [ht]; exact hP9, va_K.moved hW.alike hK9, hD9⟩, hS.F ht⟩) hS.2.2 dX11_join_60
    · skip
      refine W.eq (g2 := F0 m 12 ls [.null]) rfl ?_
      refine lv_astoreN (lv' := [(5, .null), (4, .null), (0, .ref h0), (1, .int v1), (2, .int v2), (3, .int v3)]) hx hb dX11_join_12 hl (by decide) rfl (fun ls hl => ?_)
      refine lv_aload_n hx hb dX11_join_14 rfl (lv_at hl 2 rfl) ?_
      refine lv_iload_n hx hb dX11_join_15 rfl (lv_at hl 5 rfl) ?_
      have hFc := zFree hD hS hA
      refine va_callq (va_runV (As := [.int v3]) (rest := []) ⟨hx, hb, hml, hown, hts⟩ (s_slotAt l dC dI H.size h0 v3 sl walker_ rd machine_ trial_ dk cT fT ws tl k0 he0 k1 he1 t0 ht0 hf) (cwV 1 hts gk_join_74 rfl rfl rfl (by decide +kernel) ⟨Nat.le_of_ble_eq_true rfl, Nat.le_of_ble_eq_true rfl⟩) ⟨fun a U g mk q => by obtain ⟨q0, q1, qP, qK, qD⟩ := q; exact ⟨q0, q1, qP, va_K.moved (u := U) (U := U.calling g mk a) (Vm.Alike.refl U.vm) qK, qD⟩, va_recv hK hP (ci := 11) (q0 := k0) rfl he0, fun U hU hW => ⟨rfl, by rw [hU], by rw [hU]; exact hP, va_K.moved hW.alike hK, hD.weaken (fun _ _ _ _ => trivial)⟩⟩ rfl rfl hl.1 rfl (lv_room (Nat.le_of_ble_eq_true rfl)) dX11_join_16 ⟨Nat.le_of_ble_eq_true rfl, Nat.le_of_ble_eq_true rfl⟩) hS (fun q _ h => hFc q h) hFc (fun r_28 u t H1 locs ht hvm hw hB hz1 hk1 hS => ?_)
      obtain ⟨hP, hK1, hD1⟩ := hB
      rw [ht] at hP
      try dsimp only at hw
      clear hk1 hz1 hFc hD1 hK1
      generalize H1 = H at hP hS ⊢
      rcases hw with ⟨f_29, rfl⟩ | ⟨f_29, rfl⟩
      · skip
        obtain ⟨t_30, et_30⟩ := hf v3 f_29
        refine W.eq (g2 := F0 m 19 ls [.ref t_30]) (by rw [et_30]; rfl) ?_
        obtain ⟨s_31_t, s_31_r, s_31_c, s_31_g, s_31_k, s_31_k2, s_31_k3, s_31_e, s_31_h, s_31_h2, s_31_h3⟩ := hfs v3 f_29
        obtain rfl : t_30 = s_31_t := Option.some.inj (et_30.symm.trans s_31_e)
        refine lv_astore (lv' := [(6, .ref t_30), (5, .null), (4, .null), (0, .ref h0), (1, .int v1), (2, .int v2), (3, .int v3)]) hx hb dX11_join_19 hl (by decide) rfl (fun ls hl => ?_)
        refine lv_aloadN hx hb dX11_join_21 (lv_at hl 2 rfl) ?_
        refine lv_ifnullN (tgt := 59) hx hb dX11_join_23 (by decide) ?_
        refine lv_iconst (v := (-1)) hx hb dX11_join_59 (by decide) ?_
        have hP9 := hP
        have hD9 := hD
        have hK9 := hK
        exact W.iret (v := (-1)) hx hb hr (fun t ht hW => ⟨⟨(-1), (), rfl, (by simp [sp_join, f_2, f_21, f_29]), by rw [ht]; exact hP9, va_K.moved hW.alike hK9, hD9⟩, hS.F ht⟩) hS.2.2 dX11_join_60
      · skip
        refine W.eq (g2 := F0 m 19 ls [.null]) rfl ?_
        refine lv_astoreN (lv' := [(6, .null), (5, .null), (4, .null), (0, .ref h0), (1, .int v1), (2, .int v2), (3, .int v3)]) hx hb dX11_join_19 hl (by decide) rfl (fun ls hl => ?_)
        refine lv_aloadN hx hb dX11_join_21 (lv_at hl 2 rfl) ?_
        refine lv_ifnullN (tgt := 59) hx hb dX11_join_23 (by decide) ?_
        refine lv_iconst (v := (-1)) hx hb dX11_join_59 (by decide) ?_
        have hP9 := hP
        have hD9 := hD
        have hK9 := hK
        exact W.iret (v := (-1)) hx hb hr (fun t ht hW => ⟨⟨(-1), (), rfl, (by simp [sp_join, f_2, f_21, f_29]), by rw [ht]; exact hP9, va_K.moved hW.alike hK9, hD9⟩, hS.F ht⟩) hS.2.2 dX11_join_60
def wk_cut : List Cond := .code yX11_cut cX11_cut 7 (some .int) :: ([.methodLink RX11 74 yX11_slotAt, .instanceMethod yX11_slotAt, .selects RX11 yX11_slotAt yX11_slotAt, .initialized RX11, .code yX11_slotAt cX11_slotAt 2 (some (.object "PutBack$Text")), .fieldLink RX11 11 "PutBack" "slots" "[LPutBack$Text;", .methodLink RX11 251 yX6_reaches, .instanceMethod yX6_reaches, .selects RX6 yX6_reaches yX6_reaches, .initialized RX6, .code yX6_reaches cX6_reaches 3 (some .boolean), .fieldLink RX6 21 "PutBack$Text" "length" "I", .fieldLink RX11 87 "PutBack$Text" "ranks" "[B", .methodLink RX11 255 yX6_fill, .instanceMethod yX6_fill, .selects RX6 yX6_fill yX6_fill, .code yX6_fill cX6_fill 4 none, .fieldLink RX6 9 "PutBack$Text" "ranks" "[B", .methodLink RX6 15 arraycopyName, .native arraycopyName, .static arraycopyName, .initialized "java/lang/System", .fieldLink RX11 86 "PutBack$Text" "length" "I"] ++ wsX60 ++ wsX110)
theorem ik_cut_RX6 : ∀ w ∈ u_ws RX6 TX6 2, w ∈ wk_cut := fun w h => List.mem_cons_of_mem _ (List.mem_append_left _ (List.mem_append_right _ h))
theorem ik_cut_RX11 : ∀ w ∈ u_ws RX11 TX11 6, w ∈ wk_cut := fun w h => List.mem_cons_of_mem _ (List.mem_append_right _ h)
theorem gk_cut_74g : GoodIn wk_cut ws_slotAt := goodIn_r _ [5, 6, 26, 27, 28, 29, 30, 31] (by decide +kernel) (by decide +kernel)
theorem gk_cut_74 : GoodIn wk_cut (wsV RX11 74 RX11 yX11_slotAt ws_slotAt) := goodIn_app (goodIn_of _ (by decide +kernel)) gk_cut_74g
theorem gk_cut_251g : GoodIn wk_cut ws_reaches := goodIn_r _ [11, 12, 24, 25] (by decide +kernel) (by decide +kernel)
theorem gk_cut_251 : GoodIn wk_cut (wsV RX11 251 RX6 yX6_reaches ws_reaches) := goodIn_app (goodIn_of _ (by decide +kernel)) gk_cut_251g
theorem gk_cut_255g : GoodIn wk_cut ws_fill := goodIn_r _ [17, 18, 19, 20, 21, 22, 12, 24, 25] (by decide +kernel) (by decide +kernel)
theorem gk_cut_255 : GoodIn wk_cut (wsV RX11 255 RX6 yX6_fill ws_fill) := goodIn_app (goodIn_of _ (by decide +kernel)) gk_cut_255g
set_option maxHeartbeats 4000000 in
set_option maxRecDepth 100000 in
theorem k_cut (l : Launch) (dC : Nat → ClassId) (dI : Nat → Nat → Nat) (sz : Nat) (h0 : Nat) (v1 : Int32) (v2 : Int32) (v3 : Int32) (v4 : Int32) (sl : Nat) (walker_ : Nat) (rd : Nat) (machine_ : Nat) (trial_ : Nat) (dk : Nat) (cT : ClassId) (fT : Nat → Option Nat)  (ws : va_W) (tl : List (ClassId × FieldType)) (k0 : Nat) (he0 : ws[k0]? = some (h0, .inr (11, [.ref sl, .ref walker_, .ref rd, .ref machine_, .ref trial_, .ref dk]))) (k1 : Nat) (he1 : ws[k1]? = some (sl, .inl (cT, 8, .inr (.inr (.inr (.inr fT)))))) (t0 : Nat) (ht0 : tl[t0]? = some (cT, .object RX6)) (hfs : ∀ i : Int32, inS i → ∃ (t r : Nat) (cc1 : ClassId) (g1 : Nat → Int32) (k k2 k3 : Nat), fT i.toNatClampNeg = some t ∧ ws[k]? = some (t, .inr (6, [.ref r, .int 0])) ∧ ws[k2]? = some (r, .inl (cc1, 60, .inl g1)) ∧ tl[k3]? = some (cc1, .byte)) : Met l yX11_cut wk_cut ({ frames := 2, cells := 0, slots := 0, locals := 83 } : Room) (va_Pc [.ref h0, .int v1, .int v2, .int v3, .int v4] (fun U => U.heap.size = sz ∧ va_P (dC, dI) cls ws U.heap ∧ va_K (dC, dI) cls tl U ∧ va_D (fun _ => True) ws)) (va_Qi (fun (r : Int32) (_ : Unit) => r = sp_cut v1 v2 v3 v4) (fun (_ : Unit) t => va_P (dC, dI) cls ws t.heap ∧ va_K (dC, dI) cls tl t ∧ va_D (va_A ws sz) ws) (va_A ws sz)) 0 0 (va_A ws sz) := by
  refine Met.ofW (cc := cX11_cut) (maxL := 7) (ret := (some .int)) (by decide) rfl ?_
  intro p e s m args below meth c s₁ B hml hv
  obtain ⟨rfl, hsz, hP, hK, hD0⟩ := hv
  have hx := B.exec
  have hb := B.bytes
  have hr := B.returns
  have hts := atoms_spec (ws := wk_cut) B.pre
  have hown : s.vm.findClass RX11 = some m.cls := findClass_of_methodNamed B.named
  have hlocks := B.notSynchronized
  subst hsz
  have hD := hD0.self (sz := s.heap.size)
  generalize hAe : va_A ws s.heap.size = A at hD ⊢
  have hA : ∀ q : Nat, s.heap.size ≤ q → A q := fun q h => by rw [← hAe]; exact Or.inr h
  have hP : va_P (dC, dI) cls ws s.heap := hP
  have hl := lv_entry ([.ref h0, .int v1, .int v2, .int v3, .int v4]) (n := 7) (Nat.le_of_ble_eq_true rfl)
  rw [lg_entry_eq]
  generalize (lg_sl ([.ref h0, .int v1, .int v2, .int v3, .int v4]) ++ List.replicate (7 - (lg_sl ([.ref h0, .int v1, .int v2, .int v3, .int v4])).length) Slot.unset).toArray = ls at hl ⊢
  have hl : lv_has ls 7 [(0, .ref h0), (1, .int v1), (2, .int v2), (3, .int v3), (4, .int v4)] := hl
  obtain ⟨H, hH⟩ : ∃ H : Heap, s.heap = H := ⟨_, rfl⟩
  rw [hH] at hP ⊢
  have hS : va_S A s.heap H [] := by rw [← hH]; exact va_S.rf
  have hf : ∀ i : Int32, inS i → ∃ t, fT i.toNatClampNeg = some t := fun i h => by obtain ⟨t, _, _, _, _, _, _, e, _⟩ := hfs i h; exact ⟨t, e⟩
  refine lv_aload_n hx hb dX11_cut_0 rfl (lv_at hl 0 rfl) ?_
  refine lv_iload_n hx hb dX11_cut_1 rfl (lv_at hl 1 rfl) ?_
  have hFc := zFree hD hS hA
  refine va_callq (va_runV (As := [.int v1]) (rest := []) ⟨hx, hb, hml, hown, hts⟩ (s_slotAt l dC dI H.size h0 v1 sl walker_ rd machine_ trial_ dk cT fT ws tl k0 he0 k1 he1 t0 ht0 hf) (cwV 1 hts gk_cut_74 rfl rfl rfl (by decide +kernel) ⟨Nat.le_of_ble_eq_true rfl, Nat.le_of_ble_eq_true rfl⟩) ⟨fun a U g mk q => by obtain ⟨q0, q1, qP, qK, qD⟩ := q; exact ⟨q0, q1, qP, va_K.moved (u := U) (U := U.calling g mk a) (Vm.Alike.refl U.vm) qK, qD⟩, va_recv hK hP (ci := 11) (q0 := k0) rfl he0, fun U hU hW => ⟨rfl, by rw [hU], by rw [hU]; exact hP, va_K.moved hW.alike hK, hD.weaken (fun _ _ _ _ => trivial)⟩⟩ rfl rfl hl.1 rfl (lv_room (Nat.le_of_ble_eq_true rfl)) dX11_cut_2 ⟨Nat.le_of_ble_eq_true rfl, Nat.le_of_ble_eq_true rfl⟩) hS (fun q _ h => hFc q h) hFc (fun r_1 u t H1 locs ht hvm hw hB hz1 hk1 hS => ?_)
  obtain ⟨hP, hK1, hD1⟩ := hB
  rw [ht] at hP
  try dsimp only at hw
  clear hk1 hz1 hFc hD1 hK1
  generalize H1 = H at hP hS ⊢
  rcases hw with ⟨f_2, rfl⟩ | ⟨f_2, rfl⟩
  · skip
    obtain ⟨t_3, et_3⟩ := hf v1 f_2
    refine W.eq (g2 := F0 m 5 ls [.ref t_3]) (by rw [et_3]; rfl) ?_
    obtain ⟨s_4_t, s_4_r, s_4_c, s_4_g, s_4_k, s_4_k2, s_4_k3, s_4_e, s_4_h, s_4_h2, s_4_h3⟩ := hfs v1 f_2
    obtain rfl : t_3 = s_4_t := Option.some.inj (et_3.symm.trans s_4_e)
    refine lv_astore (lv' := [(5, .ref t_3), (0, .ref h0), (1, .int v1), (2, .int v2), (3, .int v3), (4, .int v4)]) hx hb dX11_cut_5 hl (by decide) rfl (fun ls hl => ?_)
    refine lv_aload_n hx hb dX11_cut_7 rfl (lv_at hl 1 rfl) ?_
    refine lv_iload hx hb dX11_cut_8 (lv_at hl 5 rfl) ?_
    have hFc := zFree hD hS hA
    refine va_callq (va_runV (As := [.int v4]) (rest := []) ⟨hx, hb, hml, hown, hts⟩ (s_slotAt l dC dI H.size h0 v4 sl walker_ rd machine_ trial_ dk cT fT ws tl k0 he0 k1 he1 t0 ht0 hf) (cwV 1 hts gk_cut_74 rfl rfl rfl (by decide +kernel) ⟨Nat.le_of_ble_eq_true rfl, Nat.le_of_ble_eq_true rfl⟩) ⟨fun a U g mk q => by obtain ⟨q0, q1, qP, qK, qD⟩ := q; exact ⟨q0, q1, qP, va_K.moved (u := U) (U := U.calling g mk a) (Vm.Alike.refl U.vm) qK, qD⟩, va_recv hK hP (ci := 11) (q0 := k0) rfl he0, fun U hU hW => ⟨rfl, by rw [hU], by rw [hU]; exact hP, va_K.moved hW.alike hK, hD.weaken (fun _ _ _ _ => trivial)⟩⟩ rfl rfl hl.1 rfl (lv_room (Nat.le_of_ble_eq_true rfl)) dX11_cut_10 ⟨Nat.le_of_ble_eq_true rfl, Nat.le_of_ble_eq_true rfl⟩) hS (fun q _ h => hFc q h) hFc (fun r_5 u t H1 locs ht hvm hw hB hz1 hk1 hS => ?_)
    obtain ⟨hP, hK1, hD1⟩ := hB
    rw [ht] at hP
    try dsimp only at hw
    clear hk1 hz1 hFc hD1 hK1
    generalize H1 = H at hP hS ⊢
    rcases hw with ⟨f_6, rfl⟩ | ⟨f_6, rfl⟩
    · skip
      obtain ⟨t_7, et_7⟩ := hf v4 f_6
      refine W.eq (g2 := F0 m 13 ls [.ref t_7]) (by rw [et_7]; rfl) ?_
      obtain ⟨s_8_t, s_8_r, s_8_c, s_8_g, s_8_k, s_8_k2, s_8_k3, s_8_e, s_8_h, s_8_h2, s_8_h3⟩ := hfs v4 f_6
      obtain rfl : t_7 = s_8_t := Option.some.inj (et_7.symm.trans s_8_e)
      refine lv_astore (lv' := [(6, .ref t_7), (5, .ref t_3), (0, .ref h0), (1, .int v1), (2, .int v2), (3, .int v3), (4, .int v4)]) hx hb dX11_cut_13 hl (by decide) rfl (fun ls hl => ?_)
      refine lv_aload hx hb dX11_cut_15 (lv_at hl 1 rfl) ?_
      refine lv_ifnull hx hb dX11_cut_17 ?_
      refine lv_aload hx hb dX11_cut_20 (lv_at hl 0 rfl) ?_
      refine lv_ifnull hx hb dX11_cut_22 ?_
      refine lv_aload hx hb dX11_cut_25 (lv_at hl 1 rfl) ?_
      refine lv_iload_n hx hb dX11_cut_27 rfl (lv_at hl 4 rfl) ?_
      refine lv_iload_n hx hb dX11_cut_28 rfl (lv_at hl 5 rfl) ?_
      have hFc := zFree hD hS hA
      refine va_calli (va_runV (As := [.int v2, .int v3]) (rest := []) ⟨hx, hb, hml, hown, hts⟩ (s_reaches l dC dI H.size t_3 v2 v3 s_4_r ws tl s_4_k s_4_h) (cwV 2 hts gk_cut_251 rfl rfl rfl (by decide +kernel) ⟨Nat.le_of_ble_eq_true rfl, Nat.le_of_ble_eq_true rfl⟩) ⟨fun a U g mk q => by obtain ⟨q0, q1, qP, qK, qD⟩ := q; exact ⟨q0, q1, qP, va_K.moved (u := U) (U := U.calling g mk a) (Vm.Alike.refl U.vm) qK, qD⟩, va_recv hK hP (ci := 6) (q0 := s_4_k) rfl s_4_h, fun U hU hW => ⟨rfl, by rw [hU], by rw [hU]; exact hP, va_K.moved hW.alike hK, hD.weaken (fun _ _ _ _ => trivial)⟩⟩ rfl rfl hl.1 rfl (lv_room (Nat.le_of_ble_eq_true rfl)) dX11_cut_29 ⟨Nat.le_of_ble_eq_true rfl, Nat.le_of_ble_eq_true rfl⟩) hS (fun q _ h => hFc q h) hFc (fun r_9 u t H1 locs ht hvm hw hB hz1 hk1 hS => ?_)
      obtain ⟨hP, hK1, hD1⟩ := hB
      rw [ht] at hP
      try dsimp only at hw
      clear hk1 hz1 hFc hD1 hK1
      generalize H1 = H at hP hS ⊢
      rcases hw with ⟨rfl, f_10⟩ | ⟨rfl, f_10⟩
      · skip
        refine lv_if_ne (tgt := 37) hx hb dX11_cut_32 (by decide) (fun c_11 => ?_) (fun c_11 => ?_)
        rotate_left
        · exact (by revert c_11; decide : False).elim
        obtain ⟨rfl, rfl⟩ := f_10
        refine lv_aload hx hb dX11_cut_37 (lv_at hl 0 rfl) ?_
        refine lv_aload hx hb dX11_cut_39 (lv_at hl 1 rfl) ?_
        refine va_get (D := (dC, dI)) (ci := 6) (v := .ref s_4_r) (C := RX6) (T := TX6) (N := 2) hx hb hts ik_cut_RX6 hown hK hP s_4_k s_4_h rfl 0 (by decide) (hts (.fieldLink RX11 87 "PutBack$Text" "ranks" "[B") (by decide +kernel)) (fun _ h9 => h9) rfl dX11_cut_41 ?_
        refine lv_iload_n hx hb dX11_cut_44 rfl (lv_at hl 4 rfl) ?_
        refine lv_iload_n hx hb dX11_cut_45 rfl (lv_at hl 5 rfl) ?_
        have hFc := zFree hD hS hA
        refine va_callv (va_runV (As := [.ref s_4_r, .int 0, .int 0]) (rest := []) ⟨hx, hb, hml, hown, hts⟩ (s_fill l dC dI H.size t_7 s_4_r s_8_r s_8_c s_8_g s_4_c s_4_g ws tl s_8_k s_8_h s_8_k2 s_8_h2 s_4_k2 s_4_h2 s_8_k3 s_8_h3 s_4_k3 s_4_h3) (cwV 3 hts gk_cut_255 rfl rfl rfl (by decide +kernel) ⟨Nat.le_of_ble_eq_true rfl, Nat.le_of_ble_eq_true rfl⟩) ⟨fun a U g mk q => by obtain ⟨q0, q1, qP, qK, qD⟩ := q; exact ⟨q0, q1, qP, va_K.moved (u := U) (U := U.calling g mk a) (Vm.Alike.refl U.vm) qK, qD⟩, va_recv hK hP (ci := 6) (q0 := s_8_k) rfl s_8_h, fun U hU hW => ⟨rfl, by rw [hU], by rw [hU]; exact hP, va_K.moved hW.alike hK, hD.weaken (fun _ _ _ _ => trivial)⟩⟩ rfl rfl hl.1 rfl (lv_room (Nat.le_of_ble_eq_true rfl)) dX11_cut_46 ⟨Nat.le_of_ble_eq_true rfl, Nat.le_of_ble_eq_true rfl⟩) hS (fun q _ h => hFc q h) hFc (fun u t H1 locs ht hvm hw hB hz1 hk1 hS => ?_)
        obtain ⟨hP, hK1, hD1⟩ := hB
        rw [ht] at hP
        try dsimp only at hw
        clear hk1 hz1 hFc hD1 hK1
        generalize H1 = H at hP hS ⊢
        refine lv_aload hx hb dX11_cut_49 (lv_at hl 0 rfl) ?_
        refine va_get (D := (dC, dI)) (ci := 6) (v := .int 0) (C := RX6) (T := TX6) (N := 2) hx hb hts ik_cut_RX6 hown hK hP s_8_k s_8_h rfl 1 (by decide) (hts (.fieldLink RX11 86 "PutBack$Text" "length" "I") (by decide +kernel)) (fun _ h9 => h9) rfl dX11_cut_51 ?_
        have hP9 := hP
        have hD9 := hD
        have hK9 := hK
        exact W.iret (v := 0) hx hb hr (fun t ht hW => ⟨⟨0, (), rfl, (by simp [sp_cut, f_2, f_6]), by rw [ht]; exact hP9, va_K.moved hW.alike hK9, hD9⟩, hS.F ht⟩) hS.2.2 dX11_cut_54
      · skip
        refine lv_if_ne (tgt := 37) hx hb dX11_cut_32 (by decide) (fun c_13 => ?_) (fun c_13 => ?_)
        · exact (by revert c_13; decide : False).elim
        refine lv_iconst (v := (-1)) hx hb dX11_cut_35 (by decide) ?_
        have hP9 := hP
        have hD9 := hD
        have hK9 := hK
        exact W.iret (v := (-1)) hx hb hr (fun t ht hW => ⟨⟨(-1), (), rfl, zCut (fun h1 h2 h3 h4 => f_10 ⟨h3, h4⟩), by rw [ht]; exact hP9, va_K.moved hW.alike hK9, hD9⟩, hS.F ht⟩) hS.2.2 dX11_cut_36
    · skip
      refine W.eq (g2 := F0 m 13 ls [.null]) rfl ?_
      refine lv_astoreN (lv' := [(6, .null), (5, .ref t_3), (0, .ref h0), (1, .int v1), (2, .int v2), (3, .int v3), (4, .int v4)]) hx hb dX11_cut_13 hl (by decide) rfl (fun ls hl => ?_)
      refine lv_aload hx hb dX11_cut_15 (lv_at hl 1 rfl) ?_
      refine lv_ifnull hx hb dX11_cut_17 ?_
      refine lv_aloadN hx hb dX11_cut_20 (lv_at hl 0 rfl) ?_
      refine lv_ifnullN (tgt := 35) hx hb dX11_cut_22 (by decide) ?_
      refine lv_iconst (v := (-1)) hx hb dX11_cut_35 (by decide) ?_
      have hP9 := hP
      have hD9 := hD
      have hK9 := hK
      exact W.iret (v := (-1)) hx hb hr (fun t ht hW => ⟨⟨(-1), (), rfl, zCut (fun h1 h2 h3 h4 => f_6 h2), by rw [ht]; exact hP9, va_K.moved hW.alike hK9, hD9⟩, hS.F ht⟩) hS.2.2 dX11_cut_36
  · skip
    refine W.eq (g2 := F0 m 5 ls [.null]) rfl ?_
    refine lv_astoreN (lv' := [(5, .null), (0, .ref h0), (1, .int v1), (2, .int v2), (3, .int v3), (4, .int v4)]) hx hb dX11_cut_5 hl (by decide) rfl (fun ls hl => ?_)
    refine lv_aload_n hx hb dX11_cut_7 rfl (lv_at hl 1 rfl) ?_
    refine lv_iload hx hb dX11_cut_8 (lv_at hl 5 rfl) ?_
    have hFc := zFree hD hS hA
    refine va_callq (va_runV (As := [.int v4]) (rest := []) ⟨hx, hb, hml, hown, hts⟩ (s_slotAt l dC dI H.size h0 v4 sl walker_ rd machine_ trial_ dk cT fT ws tl k0 he0 k1 he1 t0 ht0 hf) (cwV 1 hts gk_cut_74 rfl rfl rfl (by decide +kernel) ⟨Nat.le_of_ble_eq_true rfl, Nat.le_of_ble_eq_true rfl⟩) ⟨fun a U g mk q => by obtain ⟨q0, q1, qP, qK, qD⟩ := q; exact ⟨q0, q1, qP, va_K.moved (u := U) (U := U.calling g mk a) (Vm.Alike.refl U.vm) qK, qD⟩, va_recv hK hP (ci := 11) (q0 := k0) rfl he0, fun U hU hW => ⟨rfl, by rw [hU], by rw [hU]; exact hP, va_K.moved hW.alike hK, hD.weaken (fun _ _ _ _ => trivial)⟩⟩ rfl rfl hl.1 rfl (lv_room (Nat.le_of_ble_eq_true rfl)) dX11_cut_10 ⟨Nat.le_of_ble_eq_true rfl, Nat.le_of_ble_eq_true rfl⟩) hS (fun q _ h => hFc q h) hFc (fun r_14 u t H1 locs ht hvm hw hB hz1 hk1 hS => ?_)
    obtain ⟨hP, hK1, hD1⟩ := hB
    rw [ht] at hP
    try dsimp only at hw
    clear hk1 hz1 hFc hD1 hK1
    generalize H1 = H at hP hS ⊢
    rcases hw with ⟨f_15, rfl⟩ | ⟨f_15, rfl⟩
    · skip
      obtain ⟨t_16, et_16⟩ := hf v4 f_15
      refine W.eq (g2 := F0 m 13 ls [.ref t_16]) (by rw [et_16]; rfl) ?_
      obtain ⟨s_17_t, s_17_r, s_17_c, s_17_g, s_17_k, s_17_k2, s_17_k3, s_17_e, s_17_h, s_17_h2, s_17_h3⟩ := hfs v4 f_15
      obtain rfl : t_16 = s_17_t := Option.some.inj (et_16.symm.trans s_17_e)
      refine lv_astore (lv' := [(6, .ref t_16), (5, .null), (0, .ref h0), (1, .int v1), (2, .int v2), (3, .int v3), (4, .int v4)]) hx hb dX11_cut_13 hl (by decide) rfl (fun ls hl => ?_)
      refine lv_aloadN hx hb dX11_cut_15 (lv_at hl 1 rfl) ?_
      refine lv_ifnullN (tgt := 35) hx hb dX11_cut_17 (by decide) ?_
      refine lv_iconst (v := (-1)) hx hb dX11_cut_35 (by decide) ?_
      have hP9 := hP
      have hD9 := hD
      have hK9 := hK
      exact W.iret (v := (-1)) hx hb hr (fun t ht hW => ⟨⟨(-1), (), rfl, zCut (fun h1 h2 h3 h4 => f_2 h1), by rw [ht]; exact hP9, va_K.moved hW.alike hK9, hD9⟩, hS.F ht⟩) hS.2.2 dX11_cut_36
    · skip
      refine W.eq (g2 := F0 m 13 ls [.null]) rfl ?_
      refine lv_astoreN (lv' := [(6, .null), (5, .null), (0, .ref h0), (1, .int v1), (2, .int v2), (3, .int v3), (4, .int v4)]) hx hb dX11_cut_13 hl (by decide) rfl (fun ls hl => ?_)
      refine lv_aloadN hx hb dX11_cut_15 (lv_at hl 1 rfl) ?_
      refine lv_ifnullN (tgt := 35) hx hb dX11_cut_17 (by decide) ?_
      refine lv_iconst (v := (-1)) hx hb dX11_cut_35 (by decide) ?_
      have hP9 := hP
      have hD9 := hD
      have hK9 := hK
      exact W.iret (v := (-1)) hx hb hr (fun t ht hW => ⟨⟨(-1), (), rfl, zCut (fun h1 h2 h3 h4 => f_2 h1), by rw [ht]; exact hP9, va_K.moved hW.alike hK9, hD9⟩, hS.F ht⟩) hS.2.2 dX11_cut_36
