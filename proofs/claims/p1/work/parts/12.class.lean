def wk_Text : List Cond := .code yX6_init cX6_init 1 none :: ([.methodLink RX6 3 objectInit, .instanceMethod objectInit, .code objectInit ⟨#[0xb1]⟩ 1 none, .arrayClass .byte, .fieldLink RX6 9 "PutBack$Text" "ranks" "[B"] ++ wsX60)
theorem ik_Text_RX6 : ∀ w ∈ u_ws RX6 TX6 2, w ∈ wk_Text := fun w h => List.mem_cons_of_mem _ (List.mem_append_right _ h)
set_option maxHeartbeats 4000000 in
set_option maxRecDepth 100000 in
theorem k_Text (l : Launch) (dC : Nat → ClassId) (dI : Nat → Nat → Nat) (sz : Nat) (h0 : Nat) : Met l yX6_init wk_Text ({ frames := 1, cells := 1, slots := 60, locals := 12 } : Room) (va_Pc [.ref h0] (fun U => U.heap.size = sz ∧ va_P (dC, dI) cls [(h0, .inr (6, [.null, .int 0]))] U.heap ∧ va_K (dC, dI) cls [] U ∧ va_D (fun _ => True) [(h0, .inr (6, [.null, .int 0]))])) (va_Qv (fun _ : Unit => True) (fun (_ : Unit) t => ∃ b1 : Nat, ∃ cb1 : ClassId, va_P (dC, dI) cls [(h0, .inr (6, [.ref b1, .int 0])), (b1, .inl (cb1, 60, .inl (fun _ => 0)))] t.heap ∧ va_K (dC, dI) cls [(cb1, .byte)] t ∧ va_D (va_A [(h0, .inr (6, [.null, .int 0]))] sz) [(h0, .inr (6, [.ref b1, .int 0])), (b1, .inl (cb1, 60, .inl (fun _ => 0)))]) (va_A [(h0, .inr (6, [.null, .int 0]))] sz)) 1 60 (va_A [(h0, .inr (6, [.null, .int 0]))] sz) := by
  refine Met.ofW (cc := cX6_init) (maxL := 1) (ret := none) (by decide) rfl ?_
  intro p e s m args below meth c s₁ B hml hv
  obtain ⟨rfl, hsz, hP, hK, hD0⟩ := hv
  have hx := B.exec
  have hb := B.bytes
  have hr := B.returns
  have hts := atoms_spec (ws := wk_Text) B.pre
  have hown : s.vm.findClass RX6 = some m.cls := findClass_of_methodNamed B.named
  have hlocks := B.notSynchronized
  have hin : meth.name = "<init>" := (name_of_methodNamed B.named B.method).1
  subst hsz
  have hD := hD0.self (sz := s.heap.size)
  generalize hAe : va_A [(h0, .inr (6, [.null, .int 0]))] s.heap.size = A at hD ⊢
  have hA : ∀ q : Nat, s.heap.size ≤ q → A q := fun q h => by rw [← hAe]; exact Or.inr h
  have hP : va_P (dC, dI) cls [(h0, .inr (6, [.null, .int 0]))] s.heap := hP
  have hl := lv_entry ([.ref h0]) (n := 1) (Nat.le_of_ble_eq_true rfl)
  rw [lg_entry_eq]
  generalize (lg_sl ([.ref h0]) ++ List.replicate (1 - (lg_sl ([.ref h0])).length) Slot.unset).toArray = ls at hl ⊢
  have hl : lv_has ls 1 [(0, .ref h0)] := hl
  obtain ⟨H, hH⟩ : ∃ H : Heap, s.heap = H := ⟨_, rfl⟩
  rw [hH] at hP ⊢
  have hS : va_S A s.heap H [] := by rw [← hH]; exact va_S.rf
  refine lv_aload_n hx hb dX6_init_0 rfl (lv_at hl 0 rfl) ?_
  refine W.objInit hx hb hown (hts (.methodLink RX6 3 objectInit) (by decide +kernel)) (hts (.instanceMethod objectInit) (by decide +kernel)) (hts (.code objectInit ⟨#[0xb1]⟩ 1 none) (by decide +kernel)) rfl (by rw [hml]; exact hl.1) rfl dX6_init_1 (Nat.le_of_ble_eq_true rfl) (Nat.le_of_ble_eq_true rfl) ?_
  refine W.eq (g2 := F0 m 4 ls []) rfl ?_
  refine lv_aload_n hx hb dX6_init_4 rfl (lv_at hl 0 rfl) ?_
  refine lv_bipush (v := 60) hx hb dX6_init_5 (by decide) ?_
  refine va_newa (atype := .byte) (ty := .byte) (N' := 60) (a0 := (60, .inl (fun _ => 0))) hx hb (hts (.arrayClass .byte) (by decide +kernel)) rfl hK hP hD hS hA (fun _ => rfl) (by decide) (by decide) (Nat.le_of_ble_eq_true rfl) (Nat.le_of_ble_eq_true rfl) (Nat.le_of_ble_eq_true rfl) dX6_init_7 (fun a_1 cA_2 H hK hP hD hS => ?_)
  refine W.widen (k := 1) (n := 60) (Nat.le_of_ble_eq_true rfl) (Nat.le_of_ble_eq_true rfl) ?_
  have hP : va_P (dC, dI) cls [(h0, .inr (6, [.null, .int 0])), (a_1, .inl (cA_2, 60, .inl (fun _ => 0)))] H := hP
  have hD : va_D A [(h0, .inr (6, [.null, .int 0])), (a_1, .inl (cA_2, 60, .inl (fun _ => 0)))] := hD
  have hK : va_K (dC, dI) cls [(cA_2, .byte)] s := hK
  refine va_putF (D := (dC, dI)) (ci := 6) (v := .ref a_1) (ty := (.array .byte)) (C := RX6) (T := TX6) (N := 2) hx hb hts ik_Text_RX6 tyX6 tyX6_ok nmX6 hown hK hP hD hS 0 rfl rfl 0 (by decide) (hts (.fieldLink RX6 9 "PutBack$Text" "ranks" "[B") (by decide +kernel)) (fun _ h9 => h9) rfl hin rfl (by decide +kernel) rfl rfl (Nat.le_of_ble_eq_true rfl) dX6_init_9 (fun H locs hP hD hS => ?_)
  have hP : va_P (dC, dI) cls [(h0, .inr (6, [.ref a_1, .int 0])), (a_1, .inl (cA_2, 60, .inl (fun _ => 0)))] H := hP
  have hD : va_D A [(h0, .inr (6, [.ref a_1, .int 0])), (a_1, .inl (cA_2, 60, .inl (fun _ => 0)))] := hD
  have hK9 := hK.sub (tys' := [(cA_2, .byte)]) [0] rfl
  have hP9 := hP.sub (ws' := [(h0, .inr (6, [.ref a_1, .int 0])), (a_1, .inl (cA_2, 60, .inl (fun _ => 0)))]) [0, 1] rfl
  have hD9 := hD.sub (ws' := [(h0, .inr (6, [.ref a_1, .int 0])), (a_1, .inl (cA_2, 60, .inl (fun _ => 0)))]) [0, 1] (by decide) rfl
  exact W.vret hx hb hr (fun t ht hW => ⟨⟨(), rfl, trivial, a_1, cA_2, by rw [ht]; exact hP9, va_K.moved hW.alike hK9, hD9⟩, hS.F ht⟩) hS.2.2 dX6_init_12
def wk_Walker : List Cond := .code yX9_init cX9_init 1 none :: ([.methodLink RX9 3 objectInit, .instanceMethod objectInit, .code objectInit ⟨#[0xb1]⟩ 1 none, .arrayClass .long, .fieldLink RX9 11 "PutBack$Walker" "seen" "[J", .arrayClass .int, .fieldLink RX9 15 "PutBack$Walker" "waiting" "[I", .fieldLink RX9 19 "PutBack$Walker" "ways" "[J"] ++ wsX90)
theorem ik_Walker_RX9 : ∀ w ∈ u_ws RX9 TX9 6, w ∈ wk_Walker := fun w h => List.mem_cons_of_mem _ (List.mem_append_right _ h)
set_option maxHeartbeats 4000000 in
set_option maxRecDepth 100000 in
theorem k_Walker (l : Launch) (dC : Nat → ClassId) (dI : Nat → Nat → Nat) (sz : Nat) (h0 : Nat) : Met l yX9_init wk_Walker ({ frames := 1, cells := 3, slots := 4982, locals := 12 } : Room) (va_Pc [.ref h0] (fun U => U.heap.size = sz ∧ va_P (dC, dI) cls [(h0, .inr (9, [.null, .null, .int 0, .null, .null, .int 0]))] U.heap ∧ va_K (dC, dI) cls [] U ∧ va_D (fun _ => True) [(h0, .inr (9, [.null, .null, .int 0, .null, .null, .int 0]))])) (va_Qv (fun _ : Unit => True) (fun (_ : Unit) t => va_P (dC, dI) cls [] t.heap ∧ va_K (dC, dI) cls [] t ∧ va_D (va_A [(h0, .inr (9, [.null, .null, .int 0, .null, .null, .int 0]))] sz) []) (va_A [(h0, .inr (9, [.null, .null, .int 0, .null, .null, .int 0]))] sz)) 3 4982 (va_A [(h0, .inr (9, [.null, .null, .int 0, .null, .null, .int 0]))] sz) := by
  refine Met.ofW (cc := cX9_init) (maxL := 1) (ret := none) (by decide) rfl ?_
  intro p e s m args below meth c s₁ B hml hv
  obtain ⟨rfl, hsz, hP, hK, hD0⟩ := hv
  have hx := B.exec
  have hb := B.bytes
  have hr := B.returns
  have hts := atoms_spec (ws := wk_Walker) B.pre
  have hown : s.vm.findClass RX9 = some m.cls := findClass_of_methodNamed B.named
  have hlocks := B.notSynchronized
  have hin : meth.name = "<init>" := (name_of_methodNamed B.named B.method).1
  subst hsz
  have hD := hD0.self (sz := s.heap.size)
  generalize hAe : va_A [(h0, .inr (9, [.null, .null, .int 0, .null, .null, .int 0]))] s.heap.size = A at hD ⊢
  have hA : ∀ q : Nat, s.heap.size ≤ q → A q := fun q h => by rw [← hAe]; exact Or.inr h
  have hP : va_P (dC, dI) cls [(h0, .inr (9, [.null, .null, .int 0, .null, .null, .int 0]))] s.heap := hP
  have hl := lv_entry ([.ref h0]) (n := 1) (Nat.le_of_ble_eq_true rfl)
  rw [lg_entry_eq]
  generalize (lg_sl ([.ref h0]) ++ List.replicate (1 - (lg_sl ([.ref h0])).length) Slot.unset).toArray = ls at hl ⊢
  have hl : lv_has ls 1 [(0, .ref h0)] := hl
  obtain ⟨H, hH⟩ : ∃ H : Heap, s.heap = H := ⟨_, rfl⟩
  rw [hH] at hP ⊢
  have hS : va_S A s.heap H [] := by rw [← hH]; exact va_S.rf
  refine lv_aload_n hx hb dX9_init_0 rfl (lv_at hl 0 rfl) ?_
  refine W.objInit hx hb hown (hts (.methodLink RX9 3 objectInit) (by decide +kernel)) (hts (.instanceMethod objectInit) (by decide +kernel)) (hts (.code objectInit ⟨#[0xb1]⟩ 1 none) (by decide +kernel)) rfl (by rw [hml]; exact hl.1) rfl dX9_init_1 (Nat.le_of_ble_eq_true rfl) (Nat.le_of_ble_eq_true rfl) ?_
  refine W.eq (g2 := F0 m 4 ls []) rfl ?_
  refine lv_aload_n hx hb dX9_init_4 rfl (lv_at hl 0 rfl) ?_
  refine lv_bipush (v := 61) hx hb dX9_init_5 (by decide) ?_
  refine va_newa (atype := .long) (ty := .long) (N' := 61) (a0 := (61, .inr (.inl (fun _ => 0)))) hx hb (hts (.arrayClass .long) (by decide +kernel)) rfl hK hP hD hS hA (fun _ => rfl) (by decide) (by decide) (Nat.le_of_ble_eq_true rfl) (Nat.le_of_ble_eq_true rfl) (Nat.le_of_ble_eq_true rfl) dX9_init_7 (fun a_1 cA_2 H hK hP hD hS => ?_)
  refine W.widen (k := 1) (n := 61) (Nat.le_of_ble_eq_true rfl) (Nat.le_of_ble_eq_true rfl) ?_
  have hP : va_P (dC, dI) cls [(h0, .inr (9, [.null, .null, .int 0, .null, .null, .int 0])), (a_1, .inl (cA_2, 61, .inr (.inl (fun _ => 0))))] H := hP
  have hD : va_D A [(h0, .inr (9, [.null, .null, .int 0, .null, .null, .int 0])), (a_1, .inl (cA_2, 61, .inr (.inl (fun _ => 0))))] := hD
  have hK : va_K (dC, dI) cls [(cA_2, .long)] s := hK
  refine va_putF (D := (dC, dI)) (ci := 9) (v := .ref a_1) (ty := (.array .long)) (C := RX9) (T := TX9) (N := 6) hx hb hts ik_Walker_RX9 tyX9 tyX9_ok nmX9 hown hK hP hD hS 0 rfl rfl 0 (by decide) (hts (.fieldLink RX9 11 "PutBack$Walker" "seen" "[J") (by decide +kernel)) (fun _ h9 => h9) rfl hin rfl (by decide +kernel) rfl rfl (Nat.le_of_ble_eq_true rfl) dX9_init_9 (fun H locs hP hD hS => ?_)
  have hP : va_P (dC, dI) cls [(h0, .inr (9, [.ref a_1, .null, .int 0, .null, .null, .int 0])), (a_1, .inl (cA_2, 61, .inr (.inl (fun _ => 0))))] H := hP
  have hD : va_D A [(h0, .inr (9, [.ref a_1, .null, .int 0, .null, .null, .int 0])), (a_1, .inl (cA_2, 61, .inr (.inl (fun _ => 0))))] := hD
  have hP := hP.sub (ws' := [(h0, .inr (9, [.ref a_1, .null, .int 0, .null, .null, .int 0]))]) [0] rfl
  have hD := hD.sub (ws' := [(h0, .inr (9, [.ref a_1, .null, .int 0, .null, .null, .int 0]))]) [0] (by decide) rfl
  have hK := hK.sub (tys' := []) [] rfl
  refine lv_aload_n hx hb dX9_init_12 rfl (lv_at hl 0 rfl) ?_
  refine lv_sipush (v := 3721) hx hb dX9_init_13 (by decide) ?_
  refine va_newa (atype := .int) (ty := .int) (N' := 3721) (a0 := (3721, .inl (fun _ => 0))) hx hb (hts (.arrayClass .int) (by decide +kernel)) rfl hK hP hD hS hA (fun _ => rfl) (by decide) (by decide) (Nat.le_of_ble_eq_true rfl) (Nat.le_of_ble_eq_true rfl) (Nat.le_of_ble_eq_true rfl) dX9_init_16 (fun a_3 cA_4 H hK hP hD hS => ?_)
  refine W.widen (k := 2) (n := 3782) (Nat.le_of_ble_eq_true rfl) (Nat.le_of_ble_eq_true rfl) ?_
  have hP : va_P (dC, dI) cls [(h0, .inr (9, [.ref a_1, .null, .int 0, .null, .null, .int 0])), (a_3, .inl (cA_4, 3721, .inl (fun _ => 0)))] H := hP
  have hD : va_D A [(h0, .inr (9, [.ref a_1, .null, .int 0, .null, .null, .int 0])), (a_3, .inl (cA_4, 3721, .inl (fun _ => 0)))] := hD
  have hK : va_K (dC, dI) cls [(cA_4, .int)] s := hK
  refine va_putF (D := (dC, dI)) (ci := 9) (v := .ref a_3) (ty := (.array .int)) (C := RX9) (T := TX9) (N := 6) hx hb hts ik_Walker_RX9 tyX9 tyX9_ok nmX9 hown hK hP hD hS 0 rfl rfl 1 (by decide) (hts (.fieldLink RX9 15 "PutBack$Walker" "waiting" "[I") (by decide +kernel)) (fun _ h9 => h9) rfl hin rfl (by decide +kernel) rfl rfl (Nat.le_of_ble_eq_true rfl) dX9_init_18 (fun H locs hP hD hS => ?_)
  have hP : va_P (dC, dI) cls [(h0, .inr (9, [.ref a_1, .ref a_3, .int 0, .null, .null, .int 0])), (a_3, .inl (cA_4, 3721, .inl (fun _ => 0)))] H := hP
  have hD : va_D A [(h0, .inr (9, [.ref a_1, .ref a_3, .int 0, .null, .null, .int 0])), (a_3, .inl (cA_4, 3721, .inl (fun _ => 0)))] := hD
  have hP := hP.sub (ws' := [(h0, .inr (9, [.ref a_1, .ref a_3, .int 0, .null, .null, .int 0]))]) [0] rfl
  have hD := hD.sub (ws' := [(h0, .inr (9, [.ref a_1, .ref a_3, .int 0, .null, .null, .int 0]))]) [0] (by decide) rfl
  have hK := hK.sub (tys' := []) [] rfl
  refine lv_aload_n hx hb dX9_init_21 rfl (lv_at hl 0 rfl) ?_
  refine lv_sipush (v := 1200) hx hb dX9_init_22 (by decide) ?_
  refine va_newa (atype := .long) (ty := .long) (N' := 1200) (a0 := (1200, .inr (.inl (fun _ => 0)))) hx hb (hts (.arrayClass .long) (by decide +kernel)) rfl hK hP hD hS hA (fun _ => rfl) (by decide) (by decide) (Nat.le_of_ble_eq_true rfl) (Nat.le_of_ble_eq_true rfl) (Nat.le_of_ble_eq_true rfl) dX9_init_25 (fun a_5 cA_6 H hK hP hD hS => ?_)
  refine W.widen (k := 3) (n := 4982) (Nat.le_of_ble_eq_true rfl) (Nat.le_of_ble_eq_true rfl) ?_
  have hP : va_P (dC, dI) cls [(h0, .inr (9, [.ref a_1, .ref a_3, .int 0, .null, .null, .int 0])), (a_5, .inl (cA_6, 1200, .inr (.inl (fun _ => 0))))] H := hP
  have hD : va_D A [(h0, .inr (9, [.ref a_1, .ref a_3, .int 0, .null, .null, .int 0])), (a_5, .inl (cA_6, 1200, .inr (.inl (fun _ => 0))))] := hD
  have hK : va_K (dC, dI) cls [(cA_6, .long)] s := hK
  refine va_putF (D := (dC, dI)) (ci := 9) (v := .ref a_5) (ty := (.array .long)) (C := RX9) (T := TX9) (N := 6) hx hb hts ik_Walker_RX9 tyX9 tyX9_ok nmX9 hown hK hP hD hS 0 rfl rfl 3 (by decide) (hts (.fieldLink RX9 19 "PutBack$Walker" "ways" "[J") (by decide +kernel)) (fun _ h9 => h9) rfl hin rfl (by decide +kernel) rfl rfl (Nat.le_of_ble_eq_true rfl) dX9_init_27 (fun H locs hP hD hS => ?_)
  have hP : va_P (dC, dI) cls [(h0, .inr (9, [.ref a_1, .ref a_3, .int 0, .ref a_5, .null, .int 0])), (a_5, .inl (cA_6, 1200, .inr (.inl (fun _ => 0))))] H := hP
  have hD : va_D A [(h0, .inr (9, [.ref a_1, .ref a_3, .int 0, .ref a_5, .null, .int 0])), (a_5, .inl (cA_6, 1200, .inr (.inl (fun _ => 0))))] := hD
  have hP := hP.sub (ws' := [(h0, .inr (9, [.ref a_1, .ref a_3, .int 0, .ref a_5, .null, .int 0]))]) [0] rfl
  have hD := hD.sub (ws' := [(h0, .inr (9, [.ref a_1, .ref a_3, .int 0, .ref a_5, .null, .int 0]))]) [0] (by decide) rfl
  have hK := hK.sub (tys' := []) [] rfl
  have hK9 := hK.sub (tys' := []) [] rfl
  have hP9 := hP.sub (ws' := []) [] rfl
  have hD9 := hD.sub (ws' := []) [] (by decide) rfl
  exact W.vret hx hb hr (fun t ht hW => ⟨⟨(), rfl, trivial, by rw [ht]; exact hP9, va_K.moved hW.alike hK9, hD9⟩, hS.F ht⟩) hS.2.2 dX9_init_30
def wk_Parts : List Cond := .code yX3_init cX3_init 1 none :: ([.methodLink RX3 3 objectInit, .instanceMethod objectInit, .code objectInit ⟨#[0xb1]⟩ 1 none, .arrayClass .int, .fieldLink RX3 9 "PutBack$Parts" "from" "[I", .fieldLink RX3 15 "PutBack$Parts" "to" "[I", .fieldLink RX3 18 "PutBack$Parts" "keyFrom" "[I", .fieldLink RX3 21 "PutBack$Parts" "keyTo" "[I", .fieldLink RX3 24 "PutBack$Parts" "partner" "[I"] ++ wsX30)
theorem ik_Parts_RX3 : ∀ w ∈ u_ws RX3 TX3 6, w ∈ wk_Parts := fun w h => List.mem_cons_of_mem _ (List.mem_append_right _ h)
set_option maxHeartbeats 4000000 in
set_option maxRecDepth 100000 in
theorem k_Parts (l : Launch) (dC : Nat → ClassId) (dI : Nat → Nat → Nat) (sz : Nat) (h0 : Nat) : Met l yX3_init wk_Parts ({ frames := 1, cells := 5, slots := 300, locals := 12 } : Room) (va_Pc [.ref h0] (fun U => U.heap.size = sz ∧ va_P (dC, dI) cls [(h0, .inr (3, [.null, .null, .null, .null, .null, .int 0]))] U.heap ∧ va_K (dC, dI) cls [] U ∧ va_D (fun _ => True) [(h0, .inr (3, [.null, .null, .null, .null, .null, .int 0]))])) (va_Qv (fun _ : Unit => True) (fun (_ : Unit) t => va_P (dC, dI) cls [] t.heap ∧ va_K (dC, dI) cls [] t ∧ va_D (va_A [(h0, .inr (3, [.null, .null, .null, .null, .null, .int 0]))] sz) []) (va_A [(h0, .inr (3, [.null, .null, .null, .null, .null, .int 0]))] sz)) 5 300 (va_A [(h0, .inr (3, [.null, .null, .null, .null, .null, .int 0]))] sz) := by
  refine Met.ofW (cc := cX3_init) (maxL := 1) (ret := none) (by decide) rfl ?_
  intro p e s m args below meth c s₁ B hml hv
  obtain ⟨rfl, hsz, hP, hK, hD0⟩ := hv
  have hx := B.exec
  have hb := B.bytes
  have hr := B.returns
  have hts := atoms_spec (ws := wk_Parts) B.pre
  have hown : s.vm.findClass RX3 = some m.cls := findClass_of_methodNamed B.named
  have hlocks := B.notSynchronized
  have hin : meth.name = "<init>" := (name_of_methodNamed B.named B.method).1
  subst hsz
  have hD := hD0.self (sz := s.heap.size)
  generalize hAe : va_A [(h0, .inr (3, [.null, .null, .null, .null, .null, .int 0]))] s.heap.size = A at hD ⊢
  have hA : ∀ q : Nat, s.heap.size ≤ q → A q := fun q h => by rw [← hAe]; exact Or.inr h
  have hP : va_P (dC, dI) cls [(h0, .inr (3, [.null, .null, .null, .null, .null, .int 0]))] s.heap := hP
  have hl := lv_entry ([.ref h0]) (n := 1) (Nat.le_of_ble_eq_true rfl)
  rw [lg_entry_eq]
  generalize (lg_sl ([.ref h0]) ++ List.replicate (1 - (lg_sl ([.ref h0])).length) Slot.unset).toArray = ls at hl ⊢
  have hl : lv_has ls 1 [(0, .ref h0)] := hl
  obtain ⟨H, hH⟩ : ∃ H : Heap, s.heap = H := ⟨_, rfl⟩
  rw [hH] at hP ⊢
  have hS : va_S A s.heap H [] := by rw [← hH]; exact va_S.rf
  refine lv_aload_n hx hb dX3_init_0 rfl (lv_at hl 0 rfl) ?_
  refine W.objInit hx hb hown (hts (.methodLink RX3 3 objectInit) (by decide +kernel)) (hts (.instanceMethod objectInit) (by decide +kernel)) (hts (.code objectInit ⟨#[0xb1]⟩ 1 none) (by decide +kernel)) rfl (by rw [hml]; exact hl.1) rfl dX3_init_1 (Nat.le_of_ble_eq_true rfl) (Nat.le_of_ble_eq_true rfl) ?_
  refine W.eq (g2 := F0 m 4 ls []) rfl ?_
  refine lv_aload_n hx hb dX3_init_4 rfl (lv_at hl 0 rfl) ?_
  refine lv_bipush (v := 60) hx hb dX3_init_5 (by decide) ?_
  refine va_newa (atype := .int) (ty := .int) (N' := 60) (a0 := (60, .inl (fun _ => 0))) hx hb (hts (.arrayClass .int) (by decide +kernel)) rfl hK hP hD hS hA (fun _ => rfl) (by decide) (by decide) (Nat.le_of_ble_eq_true rfl) (Nat.le_of_ble_eq_true rfl) (Nat.le_of_ble_eq_true rfl) dX3_init_7 (fun a_1 cA_2 H hK hP hD hS => ?_)
  refine W.widen (k := 1) (n := 60) (Nat.le_of_ble_eq_true rfl) (Nat.le_of_ble_eq_true rfl) ?_
  have hP : va_P (dC, dI) cls [(h0, .inr (3, [.null, .null, .null, .null, .null, .int 0])), (a_1, .inl (cA_2, 60, .inl (fun _ => 0)))] H := hP
  have hD : va_D A [(h0, .inr (3, [.null, .null, .null, .null, .null, .int 0])), (a_1, .inl (cA_2, 60, .inl (fun _ => 0)))] := hD
  have hK : va_K (dC, dI) cls [(cA_2, .int)] s := hK
  refine va_putF (D := (dC, dI)) (ci := 3) (v := .ref a_1) (ty := (.array .int)) (C := RX3) (T := TX3) (N := 6) hx hb hts ik_Parts_RX3 tyX3 tyX3_ok nmX3 hown hK hP hD hS 0 rfl rfl 0 (by decide) (hts (.fieldLink RX3 9 "PutBack$Parts" "from" "[I") (by decide +kernel)) (fun _ h9 => h9) rfl hin rfl (by decide +kernel) rfl rfl (Nat.le_of_ble_eq_true rfl) dX3_init_9 (fun H locs hP hD hS => ?_)
  have hP : va_P (dC, dI) cls [(h0, .inr (3, [.ref a_1, .null, .null, .null, .null, .int 0])), (a_1, .inl (cA_2, 60, .inl (fun _ => 0)))] H := hP
  have hD : va_D A [(h0, .inr (3, [.ref a_1, .null, .null, .null, .null, .int 0])), (a_1, .inl (cA_2, 60, .inl (fun _ => 0)))] := hD
  have hP := hP.sub (ws' := [(h0, .inr (3, [.ref a_1, .null, .null, .null, .null, .int 0]))]) [0] rfl
  have hD := hD.sub (ws' := [(h0, .inr (3, [.ref a_1, .null, .null, .null, .null, .int 0]))]) [0] (by decide) rfl
  have hK := hK.sub (tys' := []) [] rfl
  refine lv_aload_n hx hb dX3_init_12 rfl (lv_at hl 0 rfl) ?_
  refine lv_bipush (v := 60) hx hb dX3_init_13 (by decide) ?_
  refine va_newa (atype := .int) (ty := .int) (N' := 60) (a0 := (60, .inl (fun _ => 0))) hx hb (hts (.arrayClass .int) (by decide +kernel)) rfl hK hP hD hS hA (fun _ => rfl) (by decide) (by decide) (Nat.le_of_ble_eq_true rfl) (Nat.le_of_ble_eq_true rfl) (Nat.le_of_ble_eq_true rfl) dX3_init_15 (fun a_3 cA_4 H hK hP hD hS => ?_)
  refine W.widen (k := 2) (n := 120) (Nat.le_of_ble_eq_true rfl) (Nat.le_of_ble_eq_true rfl) ?_
  have hP : va_P (dC, dI) cls [(h0, .inr (3, [.ref a_1, .null, .null, .null, .null, .int 0])), (a_3, .inl (cA_4, 60, .inl (fun _ => 0)))] H := hP
  have hD : va_D A [(h0, .inr (3, [.ref a_1, .null, .null, .null, .null, .int 0])), (a_3, .inl (cA_4, 60, .inl (fun _ => 0)))] := hD
  have hK : va_K (dC, dI) cls [(cA_4, .int)] s := hK
  refine va_putF (D := (dC, dI)) (ci := 3) (v := .ref a_3) (ty := (.array .int)) (C := RX3) (T := TX3) (N := 6) hx hb hts ik_Parts_RX3 tyX3 tyX3_ok nmX3 hown hK hP hD hS 0 rfl rfl 1 (by decide) (hts (.fieldLink RX3 15 "PutBack$Parts" "to" "[I") (by decide +kernel)) (fun _ h9 => h9) rfl hin rfl (by decide +kernel) rfl rfl (Nat.le_of_ble_eq_true rfl) dX3_init_17 (fun H locs hP hD hS => ?_)
  have hP : va_P (dC, dI) cls [(h0, .inr (3, [.ref a_1, .ref a_3, .null, .null, .null, .int 0])), (a_3, .inl (cA_4, 60, .inl (fun _ => 0)))] H := hP
  have hD : va_D A [(h0, .inr (3, [.ref a_1, .ref a_3, .null, .null, .null, .int 0])), (a_3, .inl (cA_4, 60, .inl (fun _ => 0)))] := hD
  have hP := hP.sub (ws' := [(h0, .inr (3, [.ref a_1, .ref a_3, .null, .null, .null, .int 0]))]) [0] rfl
  have hD := hD.sub (ws' := [(h0, .inr (3, [.ref a_1, .ref a_3, .null, .null, .null, .int 0]))]) [0] (by decide) rfl
  have hK := hK.sub (tys' := []) [] rfl
  refine lv_aload_n hx hb dX3_init_20 rfl (lv_at hl 0 rfl) ?_
  refine lv_bipush (v := 60) hx hb dX3_init_21 (by decide) ?_
  refine va_newa (atype := .int) (ty := .int) (N' := 60) (a0 := (60, .inl (fun _ => 0))) hx hb (hts (.arrayClass .int) (by decide +kernel)) rfl hK hP hD hS hA (fun _ => rfl) (by decide) (by decide) (Nat.le_of_ble_eq_true rfl) (Nat.le_of_ble_eq_true rfl) (Nat.le_of_ble_eq_true rfl) dX3_init_23 (fun a_5 cA_6 H hK hP hD hS => ?_)
  refine W.widen (k := 3) (n := 180) (Nat.le_of_ble_eq_true rfl) (Nat.le_of_ble_eq_true rfl) ?_
  have hP : va_P (dC, dI) cls [(h0, .inr (3, [.ref a_1, .ref a_3, .null, .null, .null, .int 0])), (a_5, .inl (cA_6, 60, .inl (fun _ => 0)))] H := hP
  have hD : va_D A [(h0, .inr (3, [.ref a_1, .ref a_3, .null, .null, .null, .int 0])), (a_5, .inl (cA_6, 60, .inl (fun _ => 0)))] := hD
  have hK : va_K (dC, dI) cls [(cA_6, .int)] s := hK
  refine va_putF (D := (dC, dI)) (ci := 3) (v := .ref a_5) (ty := (.array .int)) (C := RX3) (T := TX3) (N := 6) hx hb hts ik_Parts_RX3 tyX3 tyX3_ok nmX3 hown hK hP hD hS 0 rfl rfl 2 (by decide) (hts (.fieldLink RX3 18 "PutBack$Parts" "keyFrom" "[I") (by decide +kernel)) (fun _ h9 => h9) rfl hin rfl (by decide +kernel) rfl rfl (Nat.le_of_ble_eq_true rfl) dX3_init_25 (fun H locs hP hD hS => ?_)
  have hP : va_P (dC, dI) cls [(h0, .inr (3, [.ref a_1, .ref a_3, .ref a_5, .null, .null, .int 0])), (a_5, .inl (cA_6, 60, .inl (fun _ => 0)))] H := hP
  have hD : va_D A [(h0, .inr (3, [.ref a_1, .ref a_3, .ref a_5, .null, .null, .int 0])), (a_5, .inl (cA_6, 60, .inl (fun _ => 0)))] := hD
  have hP := hP.sub (ws' := [(h0, .inr (3, [.ref a_1, .ref a_3, .ref a_5, .null, .null, .int 0]))]) [0] rfl
  have hD := hD.sub (ws' := [(h0, .inr (3, [.ref a_1, .ref a_3, .ref a_5, .null, .null, .int 0]))]) [0] (by decide) rfl
  have hK := hK.sub (tys' := []) [] rfl
  refine lv_aload_n hx hb dX3_init_28 rfl (lv_at hl 0 rfl) ?_
  refine lv_bipush (v := 60) hx hb dX3_init_29 (by decide) ?_
  refine va_newa (atype := .int) (ty := .int) (N' := 60) (a0 := (60, .inl (fun _ => 0))) hx hb (hts (.arrayClass .int) (by decide +kernel)) rfl hK hP hD hS hA (fun _ => rfl) (by decide) (by decide) (Nat.le_of_ble_eq_true rfl) (Nat.le_of_ble_eq_true rfl) (Nat.le_of_ble_eq_true rfl) dX3_init_31 (fun a_7 cA_8 H hK hP hD hS => ?_)
  refine W.widen (k := 4) (n := 240) (Nat.le_of_ble_eq_true rfl) (Nat.le_of_ble_eq_true rfl) ?_
  have hP : va_P (dC, dI) cls [(h0, .inr (3, [.ref a_1, .ref a_3, .ref a_5, .null, .null, .int 0])), (a_7, .inl (cA_8, 60, .inl (fun _ => 0)))] H := hP
  have hD : va_D A [(h0, .inr (3, [.ref a_1, .ref a_3, .ref a_5, .null, .null, .int 0])), (a_7, .inl (cA_8, 60, .inl (fun _ => 0)))] := hD
  have hK : va_K (dC, dI) cls [(cA_8, .int)] s := hK
  refine va_putF (D := (dC, dI)) (ci := 3) (v := .ref a_7) (ty := (.array .int)) (C := RX3) (T := TX3) (N := 6) hx hb hts ik_Parts_RX3 tyX3 tyX3_ok nmX3 hown hK hP hD hS 0 rfl rfl 3 (by decide) (hts (.fieldLink RX3 21 "PutBack$Parts" "keyTo" "[I") (by decide +kernel)) (fun _ h9 => h9) rfl hin rfl (by decide +kernel) rfl rfl (Nat.le_of_ble_eq_true rfl) dX3_init_33 (fun H locs hP hD hS => ?_)
  have hP : va_P (dC, dI) cls [(h0, .inr (3, [.ref a_1, .ref a_3, .ref a_5, .ref a_7, .null, .int 0])), (a_7, .inl (cA_8, 60, .inl (fun _ => 0)))] H := hP
  have hD : va_D A [(h0, .inr (3, [.ref a_1, .ref a_3, .ref a_5, .ref a_7, .null, .int 0])), (a_7, .inl (cA_8, 60, .inl (fun _ => 0)))] := hD
  have hP := hP.sub (ws' := [(h0, .inr (3, [.ref a_1, .ref a_3, .ref a_5, .ref a_7, .null, .int 0]))]) [0] rfl
  have hD := hD.sub (ws' := [(h0, .inr (3, [.ref a_1, .ref a_3, .ref a_5, .ref a_7, .null, .int 0]))]) [0] (by decide) rfl
  have hK := hK.sub (tys' := []) [] rfl
  refine lv_aload_n hx hb dX3_init_36 rfl (lv_at hl 0 rfl) ?_
  refine lv_bipush (v := 60) hx hb dX3_init_37 (by decide) ?_
  refine va_newa (atype := .int) (ty := .int) (N' := 60) (a0 := (60, .inl (fun _ => 0))) hx hb (hts (.arrayClass .int) (by decide +kernel)) rfl hK hP hD hS hA (fun _ => rfl) (by decide) (by decide) (Nat.le_of_ble_eq_true rfl) (Nat.le_of_ble_eq_true rfl) (Nat.le_of_ble_eq_true rfl) dX3_init_39 (fun a_9 cA_10 H hK hP hD hS => ?_)
  refine W.widen (k := 5) (n := 300) (Nat.le_of_ble_eq_true rfl) (Nat.le_of_ble_eq_true rfl) ?_
  have hP : va_P (dC, dI) cls [(h0, .inr (3, [.ref a_1, .ref a_3, .ref a_5, .ref a_7, .null, .int 0])), (a_9, .inl (cA_10, 60, .inl (fun _ => 0)))] H := hP
  have hD : va_D A [(h0, .inr (3, [.ref a_1, .ref a_3, .ref a_5, .ref a_7, .null, .int 0])), (a_9, .inl (cA_10, 60, .inl (fun _ => 0)))] := hD
  have hK : va_K (dC, dI) cls [(cA_10, .int)] s := hK
  refine va_putF (D := (dC, dI)) (ci := 3) (v := .ref a_9) (ty := (.array .int)) (C := RX3) (T := TX3) (N := 6) hx hb hts ik_Parts_RX3 tyX3 tyX3_ok nmX3 hown hK hP hD hS 0 rfl rfl 4 (by decide) (hts (.fieldLink RX3 24 "PutBack$Parts" "partner" "[I") (by decide +kernel)) (fun _ h9 => h9) rfl hin rfl (by decide +kernel) rfl rfl (Nat.le_of_ble_eq_true rfl) dX3_init_41 (fun H locs hP hD hS => ?_)
  have hP : va_P (dC, dI) cls [(h0, .inr (3, [.ref a_1, .ref a_3, .ref a_5, .ref a_7, .ref a_9, .int 0])), (a_9, .inl (cA_10, 60, .inl (fun _ => 0)))] H := hP
  have hD : va_D A [(h0, .inr (3, [.ref a_1, .ref a_3, .ref a_5, .ref a_7, .ref a_9, .int 0])), (a_9, .inl (cA_10, 60, .inl (fun _ => 0)))] := hD
  have hP := hP.sub (ws' := [(h0, .inr (3, [.ref a_1, .ref a_3, .ref a_5, .ref a_7, .ref a_9, .int 0]))]) [0] rfl
  have hD := hD.sub (ws' := [(h0, .inr (3, [.ref a_1, .ref a_3, .ref a_5, .ref a_7, .ref a_9, .int 0]))]) [0] (by decide) rfl
  have hK := hK.sub (tys' := []) [] rfl
  have hK9 := hK.sub (tys' := []) [] rfl
  have hP9 := hP.sub (ws' := []) [] rfl
  have hD9 := hD.sub (ws' := []) [] (by decide) rfl
  exact W.vret hx hb hr (fun t ht hW => ⟨⟨(), rfl, trivial, by rw [ht]; exact hP9, va_K.moved hW.alike hK9, hD9⟩, hS.F ht⟩) hS.2.2 dX3_init_44
def wk_Words : List Cond := .code yX10_init cX10_init 1 none :: ([.methodLink RX10 3 objectInit, .instanceMethod objectInit, .code objectInit ⟨#[0xb1]⟩ 1 none, .arrayClass .byte, .fieldLink RX10 9 "PutBack$Words" "told" "[B", .classLink RX10 15 RX1, .fieldLink RX10 17 "PutBack$Words" "lenses" "[LPutBack$Lens;", .arrayClass .int, .fieldLink RX10 21 "PutBack$Words" "states" "[I", .fieldLink RX10 25 "PutBack$Words" "first" "[I", .arrayClass .long, .fieldLink RX10 28 "PutBack$Words" "times" "[J", .fieldLink RX10 32 "PutBack$Words" "rest" "[I", .fieldLink RX10 35 "PutBack$Words" "places" "[I", .fieldLink RX10 38 "PutBack$Words" "asked" "[I", .fieldLink RX10 41 "PutBack$Words" "answers" "[I", .fieldLink RX10 44 "PutBack$Words" "stack" "[I", .fieldLink RX10 47 "PutBack$Words" "stackTimes" "[J"] ++ wsX100)
theorem ik_Words_RX10 : ∀ w ∈ u_ws RX10 TX10 18, w ∈ wk_Words := fun w h => List.mem_cons_of_mem _ (List.mem_append_right _ h)
set_option maxHeartbeats 4000000 in
set_option maxRecDepth 100000 in
theorem k_Words (l : Launch) (dC : Nat → ClassId) (dI : Nat → Nat → Nat) (sz : Nat) (h0 : Nat) : Met l yX10_init wk_Words ({ frames := 1, cells := 11, slots := 60, locals := 12 } : Room) (va_Pc [.ref h0] (fun U => U.heap.size = sz ∧ va_P (dC, dI) cls [(h0, .inr (10, [.null, .null, .null, .int 0, .null, .null, .null, .int 0, .null, .null, .null, .int 0, .null, .null, .int 0, .int 0, .int 0, .int 0]))] U.heap ∧ va_K (dC, dI) cls [] U ∧ va_D (fun _ => True) [(h0, .inr (10, [.null, .null, .null, .int 0, .null, .null, .null, .int 0, .null, .null, .null, .int 0, .null, .null, .int 0, .int 0, .int 0, .int 0]))] ∧ va_AO RX1 U)) (va_Qv (fun _ : Unit => True) (fun (_ : Unit) t => va_P (dC, dI) cls [] t.heap ∧ va_K (dC, dI) cls [] t ∧ va_D (va_A [(h0, .inr (10, [.null, .null, .null, .int 0, .null, .null, .null, .int 0, .null, .null, .null, .int 0, .null, .null, .int 0, .int 0, .int 0, .int 0]))] sz) []) (va_A [(h0, .inr (10, [.null, .null, .null, .int 0, .null, .null, .null, .int 0, .null, .null, .null, .int 0, .null, .null, .int 0, .int 0, .int 0, .int 0]))] sz)) 11 60 (va_A [(h0, .inr (10, [.null, .null, .null, .int 0, .null, .null, .null, .int 0, .null, .null, .null, .int 0, .null, .null, .int 0, .int 0, .int 0, .int 0]))] sz) := by
  refine Met.ofW (cc := cX10_init) (maxL := 1) (ret := none) (by decide) rfl ?_
  intro p e s m args below meth c s₁ B hml hv
  obtain ⟨rfl, hsz, hP, hK, hD0, n_O_RX1⟩ := hv
  have hx := B.exec
  have hb := B.bytes
  have hr := B.returns
  have hts := atoms_spec (ws := wk_Words) B.pre
  have hown : s.vm.findClass RX10 = some m.cls := findClass_of_methodNamed B.named
  have hlocks := B.notSynchronized
  have hin : meth.name = "<init>" := (name_of_methodNamed B.named B.method).1
  subst hsz
  have hD := hD0.self (sz := s.heap.size)
  generalize hAe : va_A [(h0, .inr (10, [.null, .null, .null, .int 0, .null, .null, .null, .int 0, .null, .null, .null, .int 0, .null, .null, .int 0, .int 0, .int 0, .int 0]))] s.heap.size = A at hD ⊢
  have hA : ∀ q : Nat, s.heap.size ≤ q → A q := fun q h => by rw [← hAe]; exact Or.inr h
  have hP : va_P (dC, dI) cls [(h0, .inr (10, [.null, .null, .null, .int 0, .null, .null, .null, .int 0, .null, .null, .null, .int 0, .null, .null, .int 0, .int 0, .int 0, .int 0]))] s.heap := hP
  have hl := lv_entry ([.ref h0]) (n := 1) (Nat.le_of_ble_eq_true rfl)
  rw [lg_entry_eq]
  generalize (lg_sl ([.ref h0]) ++ List.replicate (1 - (lg_sl ([.ref h0])).length) Slot.unset).toArray = ls at hl ⊢
  have hl : lv_has ls 1 [(0, .ref h0)] := hl
  obtain ⟨H, hH⟩ : ∃ H : Heap, s.heap = H := ⟨_, rfl⟩
  rw [hH] at hP ⊢
  have hS : va_S A s.heap H [] := by rw [← hH]; exact va_S.rf
  refine lv_aload_n hx hb dX10_init_0 rfl (lv_at hl 0 rfl) ?_
  refine W.objInit hx hb hown (hts (.methodLink RX10 3 objectInit) (by decide +kernel)) (hts (.instanceMethod objectInit) (by decide +kernel)) (hts (.code objectInit ⟨#[0xb1]⟩ 1 none) (by decide +kernel)) rfl (by rw [hml]; exact hl.1) rfl dX10_init_1 (Nat.le_of_ble_eq_true rfl) (Nat.le_of_ble_eq_true rfl) ?_
  refine W.eq (g2 := F0 m 4 ls []) rfl ?_
  refine lv_aload_n hx hb dX10_init_4 rfl (lv_at hl 0 rfl) ?_
  refine lv_bipush (v := 60) hx hb dX10_init_5 (by decide) ?_
  refine va_newa (atype := .byte) (ty := .byte) (N' := 60) (a0 := (60, .inl (fun _ => 0))) hx hb (hts (.arrayClass .byte) (by decide +kernel)) rfl hK hP hD hS hA (fun _ => rfl) (by decide) (by decide) (Nat.le_of_ble_eq_true rfl) (Nat.le_of_ble_eq_true rfl) (Nat.le_of_ble_eq_true rfl) dX10_init_7 (fun a_1 cA_2 H hK hP hD hS => ?_)
  refine W.widen (k := 1) (n := 60) (Nat.le_of_ble_eq_true rfl) (Nat.le_of_ble_eq_true rfl) ?_
  have hP : va_P (dC, dI) cls [(h0, .inr (10, [.null, .null, .null, .int 0, .null, .null, .null, .int 0, .null, .null, .null, .int 0, .null, .null, .int 0, .int 0, .int 0, .int 0])), (a_1, .inl (cA_2, 60, .inl (fun _ => 0)))] H := hP
  have hD : va_D A [(h0, .inr (10, [.null, .null, .null, .int 0, .null, .null, .null, .int 0, .null, .null, .null, .int 0, .null, .null, .int 0, .int 0, .int 0, .int 0])), (a_1, .inl (cA_2, 60, .inl (fun _ => 0)))] := hD
  have hK : va_K (dC, dI) cls [(cA_2, .byte)] s := hK
  refine va_putF (D := (dC, dI)) (ci := 10) (v := .ref a_1) (ty := (.array .byte)) (C := RX10) (T := TX10) (N := 18) hx hb hts ik_Words_RX10 tyX10 tyX10_ok nmX10 hown hK hP hD hS 0 rfl rfl 0 (by decide) (hts (.fieldLink RX10 9 "PutBack$Words" "told" "[B") (by decide +kernel)) (fun _ h9 => h9) rfl hin rfl (by decide +kernel) rfl rfl (Nat.le_of_ble_eq_true rfl) dX10_init_9 (fun H locs hP hD hS => ?_)
  have hP : va_P (dC, dI) cls [(h0, .inr (10, [.ref a_1, .null, .null, .int 0, .null, .null, .null, .int 0, .null, .null, .null, .int 0, .null, .null, .int 0, .int 0, .int 0, .int 0])), (a_1, .inl (cA_2, 60, .inl (fun _ => 0)))] H := hP
  have hD : va_D A [(h0, .inr (10, [.ref a_1, .null, .null, .int 0, .null, .null, .null, .int 0, .null, .null, .null, .int 0, .null, .null, .int 0, .int 0, .int 0, .int 0])), (a_1, .inl (cA_2, 60, .inl (fun _ => 0)))] := hD
  have hP := hP.sub (ws' := [(h0, .inr (10, [.ref a_1, .null, .null, .int 0, .null, .null, .null, .int 0, .null, .null, .null, .int 0, .null, .null, .int 0, .int 0, .int 0, .int 0]))]) [0] rfl
  have hD := hD.sub (ws' := [(h0, .inr (10, [.ref a_1, .null, .null, .int 0, .null, .null, .null, .int 0, .null, .null, .null, .int 0, .null, .null, .int 0, .int 0, .int 0, .int 0]))]) [0] (by decide) rfl
  have hK := hK.sub (tys' := []) [] rfl
  refine lv_aload_n hx hb dX10_init_12 rfl (lv_at hl 0 rfl) ?_
  refine lv_iconst (v := 0) hx hb dX10_init_13 (by decide) ?_
  refine va_newq (C := RX1) (N' := 0) hx hb hown (hts (.classLink RX10 15 RX1) (by decide +kernel)) n_O_RX1 hK hP hD hS hA (by decide) (by decide) (Nat.le_of_ble_eq_true rfl) (Nat.le_of_ble_eq_true rfl) (Nat.le_of_ble_eq_true rfl) dX10_init_14 (fun a_3 cA_4 H hK hP hD hS => ?_)
  refine W.widen (k := 2) (n := 60) (Nat.le_of_ble_eq_true rfl) (Nat.le_of_ble_eq_true rfl) ?_
  have hP : va_P (dC, dI) cls [(h0, .inr (10, [.ref a_1, .null, .null, .int 0, .null, .null, .null, .int 0, .null, .null, .null, .int 0, .null, .null, .int 0, .int 0, .int 0, .int 0])), (a_3, .inl (cA_4, 0, .inr (.inr (.inr (.inr (fun _ => none))))))] H := hP
  have hD : va_D A [(h0, .inr (10, [.ref a_1, .null, .null, .int 0, .null, .null, .null, .int 0, .null, .null, .null, .int 0, .null, .null, .int 0, .int 0, .int 0, .int 0])), (a_3, .inl (cA_4, 0, .inr (.inr (.inr (.inr (fun _ => none))))))] := hD
  have hK : va_K (dC, dI) cls [(cA_4, .object RX1)] s := hK
  refine va_put (D := (dC, dI)) (ci := 10) (v := .ref a_3) (ty := (.array (.object "PutBack$Lens"))) (C := RX10) (T := TX10) (N := 18) hx hb hts ik_Words_RX10 tyX10 tyX10_ok nmX10 hown hK hP hD hS 0 rfl rfl 1 (by decide) (hts (.fieldLink RX10 17 "PutBack$Words" "lenses" "[LPutBack$Lens;") (by decide +kernel)) (fun _ h9 => h9) rfl (by decide +kernel) rfl rfl (Nat.le_of_ble_eq_true rfl) dX10_init_17 (fun H locs hP hD hS => ?_)
  have hP : va_P (dC, dI) cls [(h0, .inr (10, [.ref a_1, .ref a_3, .null, .int 0, .null, .null, .null, .int 0, .null, .null, .null, .int 0, .null, .null, .int 0, .int 0, .int 0, .int 0])), (a_3, .inl (cA_4, 0, .inr (.inr (.inr (.inr (fun _ => none))))))] H := hP
  have hD : va_D A [(h0, .inr (10, [.ref a_1, .ref a_3, .null, .int 0, .null, .null, .null, .int 0, .null, .null, .null, .int 0, .null, .null, .int 0, .int 0, .int 0, .int 0])), (a_3, .inl (cA_4, 0, .inr (.inr (.inr (.inr (fun _ => none))))))] := hD
  have hP := hP.sub (ws' := [(h0, .inr (10, [.ref a_1, .ref a_3, .null, .int 0, .null, .null, .null, .int 0, .null, .null, .null, .int 0, .null, .null, .int 0, .int 0, .int 0, .int 0]))]) [0] rfl
  have hD := hD.sub (ws' := [(h0, .inr (10, [.ref a_1, .ref a_3, .null, .int 0, .null, .null, .null, .int 0, .null, .null, .null, .int 0, .null, .null, .int 0, .int 0, .int 0, .int 0]))]) [0] (by decide) rfl
  have hK := hK.sub (tys' := []) [] rfl
  refine lv_aload_n hx hb dX10_init_20 rfl (lv_at hl 0 rfl) ?_
  refine lv_iconst (v := 0) hx hb dX10_init_21 (by decide) ?_
  refine va_newa (atype := .int) (ty := .int) (N' := 0) (a0 := (0, .inl (fun _ => 0))) hx hb (hts (.arrayClass .int) (by decide +kernel)) rfl hK hP hD hS hA (fun _ => rfl) (by decide) (by decide) (Nat.le_of_ble_eq_true rfl) (Nat.le_of_ble_eq_true rfl) (Nat.le_of_ble_eq_true rfl) dX10_init_22 (fun a_5 cA_6 H hK hP hD hS => ?_)
  refine W.widen (k := 3) (n := 60) (Nat.le_of_ble_eq_true rfl) (Nat.le_of_ble_eq_true rfl) ?_
  have hP : va_P (dC, dI) cls [(h0, .inr (10, [.ref a_1, .ref a_3, .null, .int 0, .null, .null, .null, .int 0, .null, .null, .null, .int 0, .null, .null, .int 0, .int 0, .int 0, .int 0])), (a_5, .inl (cA_6, 0, .inl (fun _ => 0)))] H := hP
  have hD : va_D A [(h0, .inr (10, [.ref a_1, .ref a_3, .null, .int 0, .null, .null, .null, .int 0, .null, .null, .null, .int 0, .null, .null, .int 0, .int 0, .int 0, .int 0])), (a_5, .inl (cA_6, 0, .inl (fun _ => 0)))] := hD
  have hK : va_K (dC, dI) cls [(cA_6, .int)] s := hK
  refine va_put (D := (dC, dI)) (ci := 10) (v := .ref a_5) (ty := (.array .int)) (C := RX10) (T := TX10) (N := 18) hx hb hts ik_Words_RX10 tyX10 tyX10_ok nmX10 hown hK hP hD hS 0 rfl rfl 2 (by decide) (hts (.fieldLink RX10 21 "PutBack$Words" "states" "[I") (by decide +kernel)) (fun _ h9 => h9) rfl (by decide +kernel) rfl rfl (Nat.le_of_ble_eq_true rfl) dX10_init_24 (fun H locs hP hD hS => ?_)
  have hP : va_P (dC, dI) cls [(h0, .inr (10, [.ref a_1, .ref a_3, .ref a_5, .int 0, .null, .null, .null, .int 0, .null, .null, .null, .int 0, .null, .null, .int 0, .int 0, .int 0, .int 0])), (a_5, .inl (cA_6, 0, .inl (fun _ => 0)))] H := hP
  have hD : va_D A [(h0, .inr (10, [.ref a_1, .ref a_3, .ref a_5, .int 0, .null, .null, .null, .int 0, .null, .null, .null, .int 0, .null, .null, .int 0, .int 0, .int 0, .int 0])), (a_5, .inl (cA_6, 0, .inl (fun _ => 0)))] := hD
  have hP := hP.sub (ws' := [(h0, .inr (10, [.ref a_1, .ref a_3, .ref a_5, .int 0, .null, .null, .null, .int 0, .null, .null, .null, .int 0, .null, .null, .int 0, .int 0, .int 0, .int 0]))]) [0] rfl
  have hD := hD.sub (ws' := [(h0, .inr (10, [.ref a_1, .ref a_3, .ref a_5, .int 0, .null, .null, .null, .int 0, .null, .null, .null, .int 0, .null, .null, .int 0, .int 0, .int 0, .int 0]))]) [0] (by decide) rfl
  have hK := hK.sub (tys' := []) [] rfl
  refine lv_aload_n hx hb dX10_init_27 rfl (lv_at hl 0 rfl) ?_
  refine lv_iconst (v := 0) hx hb dX10_init_28 (by decide) ?_
  refine va_newa (atype := .int) (ty := .int) (N' := 0) (a0 := (0, .inl (fun _ => 0))) hx hb (hts (.arrayClass .int) (by decide +kernel)) rfl hK hP hD hS hA (fun _ => rfl) (by decide) (by decide) (Nat.le_of_ble_eq_true rfl) (Nat.le_of_ble_eq_true rfl) (Nat.le_of_ble_eq_true rfl) dX10_init_29 (fun a_7 cA_8 H hK hP hD hS => ?_)
  refine W.widen (k := 4) (n := 60) (Nat.le_of_ble_eq_true rfl) (Nat.le_of_ble_eq_true rfl) ?_
  have hP : va_P (dC, dI) cls [(h0, .inr (10, [.ref a_1, .ref a_3, .ref a_5, .int 0, .null, .null, .null, .int 0, .null, .null, .null, .int 0, .null, .null, .int 0, .int 0, .int 0, .int 0])), (a_7, .inl (cA_8, 0, .inl (fun _ => 0)))] H := hP
  have hD : va_D A [(h0, .inr (10, [.ref a_1, .ref a_3, .ref a_5, .int 0, .null, .null, .null, .int 0, .null, .null, .null, .int 0, .null, .null, .int 0, .int 0, .int 0, .int 0])), (a_7, .inl (cA_8, 0, .inl (fun _ => 0)))] := hD
  have hK : va_K (dC, dI) cls [(cA_8, .int)] s := hK
  refine va_put (D := (dC, dI)) (ci := 10) (v := .ref a_7) (ty := (.array .int)) (C := RX10) (T := TX10) (N := 18) hx hb hts ik_Words_RX10 tyX10 tyX10_ok nmX10 hown hK hP hD hS 0 rfl rfl 4 (by decide) (hts (.fieldLink RX10 25 "PutBack$Words" "first" "[I") (by decide +kernel)) (fun _ h9 => h9) rfl (by decide +kernel) rfl rfl (Nat.le_of_ble_eq_true rfl) dX10_init_31 (fun H locs hP hD hS => ?_)
  have hP : va_P (dC, dI) cls [(h0, .inr (10, [.ref a_1, .ref a_3, .ref a_5, .int 0, .ref a_7, .null, .null, .int 0, .null, .null, .null, .int 0, .null, .null, .int 0, .int 0, .int 0, .int 0])), (a_7, .inl (cA_8, 0, .inl (fun _ => 0)))] H := hP
  have hD : va_D A [(h0, .inr (10, [.ref a_1, .ref a_3, .ref a_5, .int 0, .ref a_7, .null, .null, .int 0, .null, .null, .null, .int 0, .null, .null, .int 0, .int 0, .int 0, .int 0])), (a_7, .inl (cA_8, 0, .inl (fun _ => 0)))] := hD
  have hP := hP.sub (ws' := [(h0, .inr (10, [.ref a_1, .ref a_3, .ref a_5, .int 0, .ref a_7, .null, .null, .int 0, .null, .null, .null, .int 0, .null, .null, .int 0, .int 0, .int 0, .int 0]))]) [0] rfl
  have hD := hD.sub (ws' := [(h0, .inr (10, [.ref a_1, .ref a_3, .ref a_5, .int 0, .ref a_7, .null, .null, .int 0, .null, .null, .null, .int 0, .null, .null, .int 0, .int 0, .int 0, .int 0]))]) [0] (by decide) rfl
  have hK := hK.sub (tys' := []) [] rfl
  refine lv_aload_n hx hb dX10_init_34 rfl (lv_at hl 0 rfl) ?_
  refine lv_iconst (v := 0) hx hb dX10_init_35 (by decide) ?_
  refine va_newa (atype := .long) (ty := .long) (N' := 0) (a0 := (0, .inr (.inl (fun _ => 0)))) hx hb (hts (.arrayClass .long) (by decide +kernel)) rfl hK hP hD hS hA (fun _ => rfl) (by decide) (by decide) (Nat.le_of_ble_eq_true rfl) (Nat.le_of_ble_eq_true rfl) (Nat.le_of_ble_eq_true rfl) dX10_init_36 (fun a_9 cA_10 H hK hP hD hS => ?_)
  refine W.widen (k := 5) (n := 60) (Nat.le_of_ble_eq_true rfl) (Nat.le_of_ble_eq_true rfl) ?_
  have hP : va_P (dC, dI) cls [(h0, .inr (10, [.ref a_1, .ref a_3, .ref a_5, .int 0, .ref a_7, .null, .null, .int 0, .null, .null, .null, .int 0, .null, .null, .int 0, .int 0, .int 0, .int 0])), (a_9, .inl (cA_10, 0, .inr (.inl (fun _ => 0))))] H := hP
  have hD : va_D A [(h0, .inr (10, [.ref a_1, .ref a_3, .ref a_5, .int 0, .ref a_7, .null, .null, .int 0, .null, .null, .null, .int 0, .null, .null, .int 0, .int 0, .int 0, .int 0])), (a_9, .inl (cA_10, 0, .inr (.inl (fun _ => 0))))] := hD
  have hK : va_K (dC, dI) cls [(cA_10, .long)] s := hK
  refine va_put (D := (dC, dI)) (ci := 10) (v := .ref a_9) (ty := (.array .long)) (C := RX10) (T := TX10) (N := 18) hx hb hts ik_Words_RX10 tyX10 tyX10_ok nmX10 hown hK hP hD hS 0 rfl rfl 5 (by decide) (hts (.fieldLink RX10 28 "PutBack$Words" "times" "[J") (by decide +kernel)) (fun _ h9 => h9) rfl (by decide +kernel) rfl rfl (Nat.le_of_ble_eq_true rfl) dX10_init_38 (fun H locs hP hD hS => ?_)
  have hP : va_P (dC, dI) cls [(h0, .inr (10, [.ref a_1, .ref a_3, .ref a_5, .int 0, .ref a_7, .ref a_9, .null, .int 0, .null, .null, .null, .int 0, .null, .null, .int 0, .int 0, .int 0, .int 0])), (a_9, .inl (cA_10, 0, .inr (.inl (fun _ => 0))))] H := hP
  have hD : va_D A [(h0, .inr (10, [.ref a_1, .ref a_3, .ref a_5, .int 0, .ref a_7, .ref a_9, .null, .int 0, .null, .null, .null, .int 0, .null, .null, .int 0, .int 0, .int 0, .int 0])), (a_9, .inl (cA_10, 0, .inr (.inl (fun _ => 0))))] := hD
  have hP := hP.sub (ws' := [(h0, .inr (10, [.ref a_1, .ref a_3, .ref a_5, .int 0, .ref a_7, .ref a_9, .null, .int 0, .null, .null, .null, .int 0, .null, .null, .int 0, .int 0, .int 0, .int 0]))]) [0] rfl
  have hD := hD.sub (ws' := [(h0, .inr (10, [.ref a_1, .ref a_3, .ref a_5, .int 0, .ref a_7, .ref a_9, .null, .int 0, .null, .null, .null, .int 0, .null, .null, .int 0, .int 0, .int 0, .int 0]))]) [0] (by decide) rfl
  have hK := hK.sub (tys' := []) [] rfl
  refine lv_aload_n hx hb dX10_init_41 rfl (lv_at hl 0 rfl) ?_
  refine lv_iconst (v := 0) hx hb dX10_init_42 (by decide) ?_
  refine va_newa (atype := .int) (ty := .int) (N' := 0) (a0 := (0, .inl (fun _ => 0))) hx hb (hts (.arrayClass .int) (by decide +kernel)) rfl hK hP hD hS hA (fun _ => rfl) (by decide) (by decide) (Nat.le_of_ble_eq_true rfl) (Nat.le_of_ble_eq_true rfl) (Nat.le_of_ble_eq_true rfl) dX10_init_43 (fun a_11 cA_12 H hK hP hD hS => ?_)
  refine W.widen (k := 6) (n := 60) (Nat.le_of_ble_eq_true rfl) (Nat.le_of_ble_eq_true rfl) ?_
  have hP : va_P (dC, dI) cls [(h0, .inr (10, [.ref a_1, .ref a_3, .ref a_5, .int 0, .ref a_7, .ref a_9, .null, .int 0, .null, .null, .null, .int 0, .null, .null, .int 0, .int 0, .int 0, .int 0])), (a_11, .inl (cA_12, 0, .inl (fun _ => 0)))] H := hP
  have hD : va_D A [(h0, .inr (10, [.ref a_1, .ref a_3, .ref a_5, .int 0, .ref a_7, .ref a_9, .null, .int 0, .null, .null, .null, .int 0, .null, .null, .int 0, .int 0, .int 0, .int 0])), (a_11, .inl (cA_12, 0, .inl (fun _ => 0)))] := hD
  have hK : va_K (dC, dI) cls [(cA_12, .int)] s := hK
  refine va_put (D := (dC, dI)) (ci := 10) (v := .ref a_11) (ty := (.array .int)) (C := RX10) (T := TX10) (N := 18) hx hb hts ik_Words_RX10 tyX10 tyX10_ok nmX10 hown hK hP hD hS 0 rfl rfl 6 (by decide) (hts (.fieldLink RX10 32 "PutBack$Words" "rest" "[I") (by decide +kernel)) (fun _ h9 => h9) rfl (by decide +kernel) rfl rfl (Nat.le_of_ble_eq_true rfl) dX10_init_45 (fun H locs hP hD hS => ?_)
  have hP : va_P (dC, dI) cls [(h0, .inr (10, [.ref a_1, .ref a_3, .ref a_5, .int 0, .ref a_7, .ref a_9, .ref a_11, .int 0, .null, .null, .null, .int 0, .null, .null, .int 0, .int 0, .int 0, .int 0])), (a_11, .inl (cA_12, 0, .inl (fun _ => 0)))] H := hP
  have hD : va_D A [(h0, .inr (10, [.ref a_1, .ref a_3, .ref a_5, .int 0, .ref a_7, .ref a_9, .ref a_11, .int 0, .null, .null, .null, .int 0, .null, .null, .int 0, .int 0, .int 0, .int 0])), (a_11, .inl (cA_12, 0, .inl (fun _ => 0)))] := hD
  have hP := hP.sub (ws' := [(h0, .inr (10, [.ref a_1, .ref a_3, .ref a_5, .int 0, .ref a_7, .ref a_9, .ref a_11, .int 0, .null, .null, .null, .int 0, .null, .null, .int 0, .int 0, .int 0, .int 0]))]) [0] rfl
  have hD := hD.sub (ws' := [(h0, .inr (10, [.ref a_1, .ref a_3, .ref a_5, .int 0, .ref a_7, .ref a_9, .ref a_11, .int 0, .null, .null, .null, .int 0, .null, .null, .int 0, .int 0, .int 0, .int 0]))]) [0] (by decide) rfl
  have hK := hK.sub (tys' := []) [] rfl
  refine lv_aload_n hx hb dX10_init_48 rfl (lv_at hl 0 rfl) ?_
  refine lv_iconst (v := 0) hx hb dX10_init_49 (by decide) ?_
  refine va_newa (atype := .int) (ty := .int) (N' := 0) (a0 := (0, .inl (fun _ => 0))) hx hb (hts (.arrayClass .int) (by decide +kernel)) rfl hK hP hD hS hA (fun _ => rfl) (by decide) (by decide) (Nat.le_of_ble_eq_true rfl) (Nat.le_of_ble_eq_true rfl) (Nat.le_of_ble_eq_true rfl) dX10_init_50 (fun a_13 cA_14 H hK hP hD hS => ?_)
  refine W.widen (k := 7) (n := 60) (Nat.le_of_ble_eq_true rfl) (Nat.le_of_ble_eq_true rfl) ?_
  have hP : va_P (dC, dI) cls [(h0, .inr (10, [.ref a_1, .ref a_3, .ref a_5, .int 0, .ref a_7, .ref a_9, .ref a_11, .int 0, .null, .null, .null, .int 0, .null, .null, .int 0, .int 0, .int 0, .int 0])), (a_13, .inl (cA_14, 0, .inl (fun _ => 0)))] H := hP
  have hD : va_D A [(h0, .inr (10, [.ref a_1, .ref a_3, .ref a_5, .int 0, .ref a_7, .ref a_9, .ref a_11, .int 0, .null, .null, .null, .int 0, .null, .null, .int 0, .int 0, .int 0, .int 0])), (a_13, .inl (cA_14, 0, .inl (fun _ => 0)))] := hD
  have hK : va_K (dC, dI) cls [(cA_14, .int)] s := hK
  refine va_put (D := (dC, dI)) (ci := 10) (v := .ref a_13) (ty := (.array .int)) (C := RX10) (T := TX10) (N := 18) hx hb hts ik_Words_RX10 tyX10 tyX10_ok nmX10 hown hK hP hD hS 0 rfl rfl 8 (by decide) (hts (.fieldLink RX10 35 "PutBack$Words" "places" "[I") (by decide +kernel)) (fun _ h9 => h9) rfl (by decide +kernel) rfl rfl (Nat.le_of_ble_eq_true rfl) dX10_init_52 (fun H locs hP hD hS => ?_)
  have hP : va_P (dC, dI) cls [(h0, .inr (10, [.ref a_1, .ref a_3, .ref a_5, .int 0, .ref a_7, .ref a_9, .ref a_11, .int 0, .ref a_13, .null, .null, .int 0, .null, .null, .int 0, .int 0, .int 0, .int 0])), (a_13, .inl (cA_14, 0, .inl (fun _ => 0)))] H := hP
  have hD : va_D A [(h0, .inr (10, [.ref a_1, .ref a_3, .ref a_5, .int 0, .ref a_7, .ref a_9, .ref a_11, .int 0, .ref a_13, .null, .null, .int 0, .null, .null, .int 0, .int 0, .int 0, .int 0])), (a_13, .inl (cA_14, 0, .inl (fun _ => 0)))] := hD
  have hP := hP.sub (ws' := [(h0, .inr (10, [.ref a_1, .ref a_3, .ref a_5, .int 0, .ref a_7, .ref a_9, .ref a_11, .int 0, .ref a_13, .null, .null, .int 0, .null, .null, .int 0, .int 0, .int 0, .int 0]))]) [0] rfl
  have hD := hD.sub (ws' := [(h0, .inr (10, [.ref a_1, .ref a_3, .ref a_5, .int 0, .ref a_7, .ref a_9, .ref a_11, .int 0, .ref a_13, .null, .null, .int 0, .null, .null, .int 0, .int 0, .int 0, .int 0]))]) [0] (by decide) rfl
  have hK := hK.sub (tys' := []) [] rfl
  refine lv_aload_n hx hb dX10_init_55 rfl (lv_at hl 0 rfl) ?_
  refine lv_iconst (v := 0) hx hb dX10_init_56 (by decide) ?_
  refine va_newa (atype := .int) (ty := .int) (N' := 0) (a0 := (0, .inl (fun _ => 0))) hx hb (hts (.arrayClass .int) (by decide +kernel)) rfl hK hP hD hS hA (fun _ => rfl) (by decide) (by decide) (Nat.le_of_ble_eq_true rfl) (Nat.le_of_ble_eq_true rfl) (Nat.le_of_ble_eq_true rfl) dX10_init_57 (fun a_15 cA_16 H hK hP hD hS => ?_)
  refine W.widen (k := 8) (n := 60) (Nat.le_of_ble_eq_true rfl) (Nat.le_of_ble_eq_true rfl) ?_
  have hP : va_P (dC, dI) cls [(h0, .inr (10, [.ref a_1, .ref a_3, .ref a_5, .int 0, .ref a_7, .ref a_9, .ref a_11, .int 0, .ref a_13, .null, .null, .int 0, .null, .null, .int 0, .int 0, .int 0, .int 0])), (a_15, .inl (cA_16, 0, .inl (fun _ => 0)))] H := hP
  have hD : va_D A [(h0, .inr (10, [.ref a_1, .ref a_3, .ref a_5, .int 0, .ref a_7, .ref a_9, .ref a_11, .int 0, .ref a_13, .null, .null, .int 0, .null, .null, .int 0, .int 0, .int 0, .int 0])), (a_15, .inl (cA_16, 0, .inl (fun _ => 0)))] := hD
  have hK : va_K (dC, dI) cls [(cA_16, .int)] s := hK
  refine va_put (D := (dC, dI)) (ci := 10) (v := .ref a_15) (ty := (.array .int)) (C := RX10) (T := TX10) (N := 18) hx hb hts ik_Words_RX10 tyX10 tyX10_ok nmX10 hown hK hP hD hS 0 rfl rfl 9 (by decide) (hts (.fieldLink RX10 38 "PutBack$Words" "asked" "[I") (by decide +kernel)) (fun _ h9 => h9) rfl (by decide +kernel) rfl rfl (Nat.le_of_ble_eq_true rfl) dX10_init_59 (fun H locs hP hD hS => ?_)
  have hP : va_P (dC, dI) cls [(h0, .inr (10, [.ref a_1, .ref a_3, .ref a_5, .int 0, .ref a_7, .ref a_9, .ref a_11, .int 0, .ref a_13, .ref a_15, .null, .int 0, .null, .null, .int 0, .int 0, .int 0, .int 0])), (a_15, .inl (cA_16, 0, .inl (fun _ => 0)))] H := hP
  have hD : va_D A [(h0, .inr (10, [.ref a_1, .ref a_3, .ref a_5, .int 0, .ref a_7, .ref a_9, .ref a_11, .int 0, .ref a_13, .ref a_15, .null, .int 0, .null, .null, .int 0, .int 0, .int 0, .int 0])), (a_15, .inl (cA_16, 0, .inl (fun _ => 0)))] := hD
  have hP := hP.sub (ws' := [(h0, .inr (10, [.ref a_1, .ref a_3, .ref a_5, .int 0, .ref a_7, .ref a_9, .ref a_11, .int 0, .ref a_13, .ref a_15, .null, .int 0, .null, .null, .int 0, .int 0, .int 0, .int 0]))]) [0] rfl
  have hD := hD.sub (ws' := [(h0, .inr (10, [.ref a_1, .ref a_3, .ref a_5, .int 0, .ref a_7, .ref a_9, .ref a_11, .int 0, .ref a_13, .ref a_15, .null, .int 0, .null, .null, .int 0, .int 0, .int 0, .int 0]))]) [0] (by decide) rfl
  have hK := hK.sub (tys' := []) [] rfl
  refine lv_aload_n hx hb dX10_init_62 rfl (lv_at hl 0 rfl) ?_
  refine lv_iconst (v := 0) hx hb dX10_init_63 (by decide) ?_
  refine va_newa (atype := .int) (ty := .int) (N' := 0) (a0 := (0, .inl (fun _ => 0))) hx hb (hts (.arrayClass .int) (by decide +kernel)) rfl hK hP hD hS hA (fun _ => rfl) (by decide) (by decide) (Nat.le_of_ble_eq_true rfl) (Nat.le_of_ble_eq_true rfl) (Nat.le_of_ble_eq_true rfl) dX10_init_64 (fun a_17 cA_18 H hK hP hD hS => ?_)
  refine W.widen (k := 9) (n := 60) (Nat.le_of_ble_eq_true rfl) (Nat.le_of_ble_eq_true rfl) ?_
  have hP : va_P (dC, dI) cls [(h0, .inr (10, [.ref a_1, .ref a_3, .ref a_5, .int 0, .ref a_7, .ref a_9, .ref a_11, .int 0, .ref a_13, .ref a_15, .null, .int 0, .null, .null, .int 0, .int 0, .int 0, .int 0])), (a_17, .inl (cA_18, 0, .inl (fun _ => 0)))] H := hP
  have hD : va_D A [(h0, .inr (10, [.ref a_1, .ref a_3, .ref a_5, .int 0, .ref a_7, .ref a_9, .ref a_11, .int 0, .ref a_13, .ref a_15, .null, .int 0, .null, .null, .int 0, .int 0, .int 0, .int 0])), (a_17, .inl (cA_18, 0, .inl (fun _ => 0)))] := hD
  have hK : va_K (dC, dI) cls [(cA_18, .int)] s := hK
  refine va_put (D := (dC, dI)) (ci := 10) (v := .ref a_17) (ty := (.array .int)) (C := RX10) (T := TX10) (N := 18) hx hb hts ik_Words_RX10 tyX10 tyX10_ok nmX10 hown hK hP hD hS 0 rfl rfl 10 (by decide) (hts (.fieldLink RX10 41 "PutBack$Words" "answers" "[I") (by decide +kernel)) (fun _ h9 => h9) rfl (by decide +kernel) rfl rfl (Nat.le_of_ble_eq_true rfl) dX10_init_66 (fun H locs hP hD hS => ?_)
  have hP : va_P (dC, dI) cls [(h0, .inr (10, [.ref a_1, .ref a_3, .ref a_5, .int 0, .ref a_7, .ref a_9, .ref a_11, .int 0, .ref a_13, .ref a_15, .ref a_17, .int 0, .null, .null, .int 0, .int 0, .int 0, .int 0])), (a_17, .inl (cA_18, 0, .inl (fun _ => 0)))] H := hP
  have hD : va_D A [(h0, .inr (10, [.ref a_1, .ref a_3, .ref a_5, .int 0, .ref a_7, .ref a_9, .ref a_11, .int 0, .ref a_13, .ref a_15, .ref a_17, .int 0, .null, .null, .int 0, .int 0, .int 0, .int 0])), (a_17, .inl (cA_18, 0, .inl (fun _ => 0)))] := hD
  have hP := hP.sub (ws' := [(h0, .inr (10, [.ref a_1, .ref a_3, .ref a_5, .int 0, .ref a_7, .ref a_9, .ref a_11, .int 0, .ref a_13, .ref a_15, .ref a_17, .int 0, .null, .null, .int 0, .int 0, .int 0, .int 0]))]) [0] rfl
  have hD := hD.sub (ws' := [(h0, .inr (10, [.ref a_1, .ref a_3, .ref a_5, .int 0, .ref a_7, .ref a_9, .ref a_11, .int 0, .ref a_13, .ref a_15, .ref a_17, .int 0, .null, .null, .int 0, .int 0, .int 0, .int 0]))]) [0] (by decide) rfl
  have hK := hK.sub (tys' := []) [] rfl
  refine lv_aload_n hx hb dX10_init_69 rfl (lv_at hl 0 rfl) ?_
  refine lv_iconst (v := 0) hx hb dX10_init_70 (by decide) ?_
  refine va_newa (atype := .int) (ty := .int) (N' := 0) (a0 := (0, .inl (fun _ => 0))) hx hb (hts (.arrayClass .int) (by decide +kernel)) rfl hK hP hD hS hA (fun _ => rfl) (by decide) (by decide) (Nat.le_of_ble_eq_true rfl) (Nat.le_of_ble_eq_true rfl) (Nat.le_of_ble_eq_true rfl) dX10_init_71 (fun a_19 cA_20 H hK hP hD hS => ?_)
  refine W.widen (k := 10) (n := 60) (Nat.le_of_ble_eq_true rfl) (Nat.le_of_ble_eq_true rfl) ?_
  have hP : va_P (dC, dI) cls [(h0, .inr (10, [.ref a_1, .ref a_3, .ref a_5, .int 0, .ref a_7, .ref a_9, .ref a_11, .int 0, .ref a_13, .ref a_15, .ref a_17, .int 0, .null, .null, .int 0, .int 0, .int 0, .int 0])), (a_19, .inl (cA_20, 0, .inl (fun _ => 0)))] H := hP
  have hD : va_D A [(h0, .inr (10, [.ref a_1, .ref a_3, .ref a_5, .int 0, .ref a_7, .ref a_9, .ref a_11, .int 0, .ref a_13, .ref a_15, .ref a_17, .int 0, .null, .null, .int 0, .int 0, .int 0, .int 0])), (a_19, .inl (cA_20, 0, .inl (fun _ => 0)))] := hD
  have hK : va_K (dC, dI) cls [(cA_20, .int)] s := hK
  refine va_put (D := (dC, dI)) (ci := 10) (v := .ref a_19) (ty := (.array .int)) (C := RX10) (T := TX10) (N := 18) hx hb hts ik_Words_RX10 tyX10 tyX10_ok nmX10 hown hK hP hD hS 0 rfl rfl 12 (by decide) (hts (.fieldLink RX10 44 "PutBack$Words" "stack" "[I") (by decide +kernel)) (fun _ h9 => h9) rfl (by decide +kernel) rfl rfl (Nat.le_of_ble_eq_true rfl) dX10_init_73 (fun H locs hP hD hS => ?_)
  have hP : va_P (dC, dI) cls [(h0, .inr (10, [.ref a_1, .ref a_3, .ref a_5, .int 0, .ref a_7, .ref a_9, .ref a_11, .int 0, .ref a_13, .ref a_15, .ref a_17, .int 0, .ref a_19, .null, .int 0, .int 0, .int 0, .int 0])), (a_19, .inl (cA_20, 0, .inl (fun _ => 0)))] H := hP
  have hD : va_D A [(h0, .inr (10, [.ref a_1, .ref a_3, .ref a_5, .int 0, .ref a_7, .ref a_9, .ref a_11, .int 0, .ref a_13, .ref a_15, .ref a_17, .int 0, .ref a_19, .null, .int 0, .int 0, .int 0, .int 0])), (a_19, .inl (cA_20, 0, .inl (fun _ => 0)))] := hD
  have hP := hP.sub (ws' := [(h0, .inr (10, [.ref a_1, .ref a_3, .ref a_5, .int 0, .ref a_7, .ref a_9, .ref a_11, .int 0, .ref a_13, .ref a_15, .ref a_17, .int 0, .ref a_19, .null, .int 0, .int 0, .int 0, .int 0]))]) [0] rfl
  have hD := hD.sub (ws' := [(h0, .inr (10, [.ref a_1, .ref a_3, .ref a_5, .int 0, .ref a_7, .ref a_9, .ref a_11, .int 0, .ref a_13, .ref a_15, .ref a_17, .int 0, .ref a_19, .null, .int 0, .int 0, .int 0, .int 0]))]) [0] (by decide) rfl
  have hK := hK.sub (tys' := []) [] rfl
  refine lv_aload_n hx hb dX10_init_76 rfl (lv_at hl 0 rfl) ?_
  refine lv_iconst (v := 0) hx hb dX10_init_77 (by decide) ?_
  refine va_newa (atype := .long) (ty := .long) (N' := 0) (a0 := (0, .inr (.inl (fun _ => 0)))) hx hb (hts (.arrayClass .long) (by decide +kernel)) rfl hK hP hD hS hA (fun _ => rfl) (by decide) (by decide) (Nat.le_of_ble_eq_true rfl) (Nat.le_of_ble_eq_true rfl) (Nat.le_of_ble_eq_true rfl) dX10_init_78 (fun a_21 cA_22 H hK hP hD hS => ?_)
  refine W.widen (k := 11) (n := 60) (Nat.le_of_ble_eq_true rfl) (Nat.le_of_ble_eq_true rfl) ?_
  have hP : va_P (dC, dI) cls [(h0, .inr (10, [.ref a_1, .ref a_3, .ref a_5, .int 0, .ref a_7, .ref a_9, .ref a_11, .int 0, .ref a_13, .ref a_15, .ref a_17, .int 0, .ref a_19, .null, .int 0, .int 0, .int 0, .int 0])), (a_21, .inl (cA_22, 0, .inr (.inl (fun _ => 0))))] H := hP
  have hD : va_D A [(h0, .inr (10, [.ref a_1, .ref a_3, .ref a_5, .int 0, .ref a_7, .ref a_9, .ref a_11, .int 0, .ref a_13, .ref a_15, .ref a_17, .int 0, .ref a_19, .null, .int 0, .int 0, .int 0, .int 0])), (a_21, .inl (cA_22, 0, .inr (.inl (fun _ => 0))))] := hD
  have hK : va_K (dC, dI) cls [(cA_22, .long)] s := hK
  refine va_put (D := (dC, dI)) (ci := 10) (v := .ref a_21) (ty := (.array .long)) (C := RX10) (T := TX10) (N := 18) hx hb hts ik_Words_RX10 tyX10 tyX10_ok nmX10 hown hK hP hD hS 0 rfl rfl 13 (by decide) (hts (.fieldLink RX10 47 "PutBack$Words" "stackTimes" "[J") (by decide +kernel)) (fun _ h9 => h9) rfl (by decide +kernel) rfl rfl (Nat.le_of_ble_eq_true rfl) dX10_init_80 (fun H locs hP hD hS => ?_)
  have hP : va_P (dC, dI) cls [(h0, .inr (10, [.ref a_1, .ref a_3, .ref a_5, .int 0, .ref a_7, .ref a_9, .ref a_11, .int 0, .ref a_13, .ref a_15, .ref a_17, .int 0, .ref a_19, .ref a_21, .int 0, .int 0, .int 0, .int 0])), (a_21, .inl (cA_22, 0, .inr (.inl (fun _ => 0))))] H := hP
  have hD : va_D A [(h0, .inr (10, [.ref a_1, .ref a_3, .ref a_5, .int 0, .ref a_7, .ref a_9, .ref a_11, .int 0, .ref a_13, .ref a_15, .ref a_17, .int 0, .ref a_19, .ref a_21, .int 0, .int 0, .int 0, .int 0])), (a_21, .inl (cA_22, 0, .inr (.inl (fun _ => 0))))] := hD
  have hP := hP.sub (ws' := [(h0, .inr (10, [.ref a_1, .ref a_3, .ref a_5, .int 0, .ref a_7, .ref a_9, .ref a_11, .int 0, .ref a_13, .ref a_15, .ref a_17, .int 0, .ref a_19, .ref a_21, .int 0, .int 0, .int 0, .int 0]))]) [0] rfl
  have hD := hD.sub (ws' := [(h0, .inr (10, [.ref a_1, .ref a_3, .ref a_5, .int 0, .ref a_7, .ref a_9, .ref a_11, .int 0, .ref a_13, .ref a_15, .ref a_17, .int 0, .ref a_19, .ref a_21, .int 0, .int 0, .int 0, .int 0]))]) [0] (by decide) rfl
  have hK := hK.sub (tys' := []) [] rfl
  have hK9 := hK.sub (tys' := []) [] rfl
  have hP9 := hP.sub (ws' := []) [] rfl
  have hD9 := hD.sub (ws' := []) [] (by decide) rfl
  exact W.vret hx hb hr (fun t ht hW => ⟨⟨(), rfl, trivial, by rw [ht]; exact hP9, va_K.moved hW.alike hK9, hD9⟩, hS.F ht⟩) hS.2.2 dX10_init_83
def wk_Recall : List Cond := .code yX5_init cX5_init 1 none :: ([.methodLink RX5 5 objectInit, .instanceMethod objectInit, .code objectInit ⟨#[0xb1]⟩ 1 none, .arrayClass .byte, .fieldLink RX5 11 "PutBack$Recall" "told" "[B", .arrayClass .long, .fieldLink RX5 15 "PutBack$Recall" "asked" "[J", .fieldLink RX5 19 "PutBack$Recall" "rows" "[J"] ++ wsX50)
theorem ik_Recall_RX5 : ∀ w ∈ u_ws RX5 TX5 7, w ∈ wk_Recall := fun w h => List.mem_cons_of_mem _ (List.mem_append_right _ h)
set_option maxHeartbeats 4000000 in
set_option maxRecDepth 100000 in
theorem k_Recall (l : Launch) (dC : Nat → ClassId) (dI : Nat → Nat → Nat) (sz : Nat) (h0 : Nat) : Met l yX5_init wk_Recall ({ frames := 1, cells := 3, slots := 74, locals := 12 } : Room) (va_Pc [.ref h0] (fun U => U.heap.size = sz ∧ va_P (dC, dI) cls [(h0, .inr (5, [.null, .int 0, .null, .null, .int 0, .int 0, .int 0]))] U.heap ∧ va_K (dC, dI) cls [] U ∧ va_D (fun _ => True) [(h0, .inr (5, [.null, .int 0, .null, .null, .int 0, .int 0, .int 0]))])) (va_Qv (fun _ : Unit => True) (fun (_ : Unit) t => va_P (dC, dI) cls [] t.heap ∧ va_K (dC, dI) cls [] t ∧ va_D (va_A [(h0, .inr (5, [.null, .int 0, .null, .null, .int 0, .int 0, .int 0]))] sz) []) (va_A [(h0, .inr (5, [.null, .int 0, .null, .null, .int 0, .int 0, .int 0]))] sz)) 3 74 (va_A [(h0, .inr (5, [.null, .int 0, .null, .null, .int 0, .int 0, .int 0]))] sz) := by
  refine Met.ofW (cc := cX5_init) (maxL := 1) (ret := none) (by decide) rfl ?_
  intro p e s m args below meth c s₁ B hml hv
  obtain ⟨rfl, hsz, hP, hK, hD0⟩ := hv
  have hx := B.exec
  have hb := B.bytes
  have hr := B.returns
  have hts := atoms_spec (ws := wk_Recall) B.pre
  have hown : s.vm.findClass RX5 = some m.cls := findClass_of_methodNamed B.named
  have hlocks := B.notSynchronized
  have hin : meth.name = "<init>" := (name_of_methodNamed B.named B.method).1
  subst hsz
  have hD := hD0.self (sz := s.heap.size)
  generalize hAe : va_A [(h0, .inr (5, [.null, .int 0, .null, .null, .int 0, .int 0, .int 0]))] s.heap.size = A at hD ⊢
  have hA : ∀ q : Nat, s.heap.size ≤ q → A q := fun q h => by rw [← hAe]; exact Or.inr h
  have hP : va_P (dC, dI) cls [(h0, .inr (5, [.null, .int 0, .null, .null, .int 0, .int 0, .int 0]))] s.heap := hP
  have hl := lv_entry ([.ref h0]) (n := 1) (Nat.le_of_ble_eq_true rfl)
  rw [lg_entry_eq]
  generalize (lg_sl ([.ref h0]) ++ List.replicate (1 - (lg_sl ([.ref h0])).length) Slot.unset).toArray = ls at hl ⊢
  have hl : lv_has ls 1 [(0, .ref h0)] := hl
  obtain ⟨H, hH⟩ : ∃ H : Heap, s.heap = H := ⟨_, rfl⟩
  rw [hH] at hP ⊢
  have hS : va_S A s.heap H [] := by rw [← hH]; exact va_S.rf
  refine lv_aload_n hx hb dX5_init_0 rfl (lv_at hl 0 rfl) ?_
  refine W.objInit hx hb hown (hts (.methodLink RX5 5 objectInit) (by decide +kernel)) (hts (.instanceMethod objectInit) (by decide +kernel)) (hts (.code objectInit ⟨#[0xb1]⟩ 1 none) (by decide +kernel)) rfl (by rw [hml]; exact hl.1) rfl dX5_init_1 (Nat.le_of_ble_eq_true rfl) (Nat.le_of_ble_eq_true rfl) ?_
  refine W.eq (g2 := F0 m 4 ls []) rfl ?_
  refine lv_aload_n hx hb dX5_init_4 rfl (lv_at hl 0 rfl) ?_
  refine lv_bipush (v := 60) hx hb dX5_init_5 (by decide) ?_
  refine va_newa (atype := .byte) (ty := .byte) (N' := 60) (a0 := (60, .inl (fun _ => 0))) hx hb (hts (.arrayClass .byte) (by decide +kernel)) rfl hK hP hD hS hA (fun _ => rfl) (by decide) (by decide) (Nat.le_of_ble_eq_true rfl) (Nat.le_of_ble_eq_true rfl) (Nat.le_of_ble_eq_true rfl) dX5_init_7 (fun a_1 cA_2 H hK hP hD hS => ?_)
  refine W.widen (k := 1) (n := 60) (Nat.le_of_ble_eq_true rfl) (Nat.le_of_ble_eq_true rfl) ?_
  have hP : va_P (dC, dI) cls [(h0, .inr (5, [.null, .int 0, .null, .null, .int 0, .int 0, .int 0])), (a_1, .inl (cA_2, 60, .inl (fun _ => 0)))] H := hP
  have hD : va_D A [(h0, .inr (5, [.null, .int 0, .null, .null, .int 0, .int 0, .int 0])), (a_1, .inl (cA_2, 60, .inl (fun _ => 0)))] := hD
  have hK : va_K (dC, dI) cls [(cA_2, .byte)] s := hK
  refine va_putF (D := (dC, dI)) (ci := 5) (v := .ref a_1) (ty := (.array .byte)) (C := RX5) (T := TX5) (N := 7) hx hb hts ik_Recall_RX5 tyX5 tyX5_ok nmX5 hown hK hP hD hS 0 rfl rfl 0 (by decide) (hts (.fieldLink RX5 11 "PutBack$Recall" "told" "[B") (by decide +kernel)) (fun _ h9 => h9) rfl hin rfl (by decide +kernel) rfl rfl (Nat.le_of_ble_eq_true rfl) dX5_init_9 (fun H locs hP hD hS => ?_)
  have hP : va_P (dC, dI) cls [(h0, .inr (5, [.ref a_1, .int 0, .null, .null, .int 0, .int 0, .int 0])), (a_1, .inl (cA_2, 60, .inl (fun _ => 0)))] H := hP
  have hD : va_D A [(h0, .inr (5, [.ref a_1, .int 0, .null, .null, .int 0, .int 0, .int 0])), (a_1, .inl (cA_2, 60, .inl (fun _ => 0)))] := hD
  have hP := hP.sub (ws' := [(h0, .inr (5, [.ref a_1, .int 0, .null, .null, .int 0, .int 0, .int 0]))]) [0] rfl
  have hD := hD.sub (ws' := [(h0, .inr (5, [.ref a_1, .int 0, .null, .null, .int 0, .int 0, .int 0]))]) [0] (by decide) rfl
  have hK := hK.sub (tys' := []) [] rfl
  refine lv_aload_n hx hb dX5_init_12 rfl (lv_at hl 0 rfl) ?_
  refine lv_bipush (v := 14) hx hb dX5_init_13 (by decide) ?_
  refine va_newa (atype := .long) (ty := .long) (N' := 14) (a0 := (14, .inr (.inl (fun _ => 0)))) hx hb (hts (.arrayClass .long) (by decide +kernel)) rfl hK hP hD hS hA (fun _ => rfl) (by decide) (by decide) (Nat.le_of_ble_eq_true rfl) (Nat.le_of_ble_eq_true rfl) (Nat.le_of_ble_eq_true rfl) dX5_init_15 (fun a_3 cA_4 H hK hP hD hS => ?_)
  refine W.widen (k := 2) (n := 74) (Nat.le_of_ble_eq_true rfl) (Nat.le_of_ble_eq_true rfl) ?_
  have hP : va_P (dC, dI) cls [(h0, .inr (5, [.ref a_1, .int 0, .null, .null, .int 0, .int 0, .int 0])), (a_3, .inl (cA_4, 14, .inr (.inl (fun _ => 0))))] H := hP
  have hD : va_D A [(h0, .inr (5, [.ref a_1, .int 0, .null, .null, .int 0, .int 0, .int 0])), (a_3, .inl (cA_4, 14, .inr (.inl (fun _ => 0))))] := hD
  have hK : va_K (dC, dI) cls [(cA_4, .long)] s := hK
  refine va_putF (D := (dC, dI)) (ci := 5) (v := .ref a_3) (ty := (.array .long)) (C := RX5) (T := TX5) (N := 7) hx hb hts ik_Recall_RX5 tyX5 tyX5_ok nmX5 hown hK hP hD hS 0 rfl rfl 2 (by decide) (hts (.fieldLink RX5 15 "PutBack$Recall" "asked" "[J") (by decide +kernel)) (fun _ h9 => h9) rfl hin rfl (by decide +kernel) rfl rfl (Nat.le_of_ble_eq_true rfl) dX5_init_17 (fun H locs hP hD hS => ?_)
  have hP : va_P (dC, dI) cls [(h0, .inr (5, [.ref a_1, .int 0, .ref a_3, .null, .int 0, .int 0, .int 0])), (a_3, .inl (cA_4, 14, .inr (.inl (fun _ => 0))))] H := hP
  have hD : va_D A [(h0, .inr (5, [.ref a_1, .int 0, .ref a_3, .null, .int 0, .int 0, .int 0])), (a_3, .inl (cA_4, 14, .inr (.inl (fun _ => 0))))] := hD
  have hP := hP.sub (ws' := [(h0, .inr (5, [.ref a_1, .int 0, .ref a_3, .null, .int 0, .int 0, .int 0]))]) [0] rfl
  have hD := hD.sub (ws' := [(h0, .inr (5, [.ref a_1, .int 0, .ref a_3, .null, .int 0, .int 0, .int 0]))]) [0] (by decide) rfl
  have hK := hK.sub (tys' := []) [] rfl
  refine lv_aload_n hx hb dX5_init_20 rfl (lv_at hl 0 rfl) ?_
  refine lv_iconst (v := 0) hx hb dX5_init_21 (by decide) ?_
  refine va_newa (atype := .long) (ty := .long) (N' := 0) (a0 := (0, .inr (.inl (fun _ => 0)))) hx hb (hts (.arrayClass .long) (by decide +kernel)) rfl hK hP hD hS hA (fun _ => rfl) (by decide) (by decide) (Nat.le_of_ble_eq_true rfl) (Nat.le_of_ble_eq_true rfl) (Nat.le_of_ble_eq_true rfl) dX5_init_22 (fun a_5 cA_6 H hK hP hD hS => ?_)
  refine W.widen (k := 3) (n := 74) (Nat.le_of_ble_eq_true rfl) (Nat.le_of_ble_eq_true rfl) ?_
  have hP : va_P (dC, dI) cls [(h0, .inr (5, [.ref a_1, .int 0, .ref a_3, .null, .int 0, .int 0, .int 0])), (a_5, .inl (cA_6, 0, .inr (.inl (fun _ => 0))))] H := hP
  have hD : va_D A [(h0, .inr (5, [.ref a_1, .int 0, .ref a_3, .null, .int 0, .int 0, .int 0])), (a_5, .inl (cA_6, 0, .inr (.inl (fun _ => 0))))] := hD
  have hK : va_K (dC, dI) cls [(cA_6, .long)] s := hK
  refine va_put (D := (dC, dI)) (ci := 5) (v := .ref a_5) (ty := (.array .long)) (C := RX5) (T := TX5) (N := 7) hx hb hts ik_Recall_RX5 tyX5 tyX5_ok nmX5 hown hK hP hD hS 0 rfl rfl 3 (by decide) (hts (.fieldLink RX5 19 "PutBack$Recall" "rows" "[J") (by decide +kernel)) (fun _ h9 => h9) rfl (by decide +kernel) rfl rfl (Nat.le_of_ble_eq_true rfl) dX5_init_24 (fun H locs hP hD hS => ?_)
  have hP : va_P (dC, dI) cls [(h0, .inr (5, [.ref a_1, .int 0, .ref a_3, .ref a_5, .int 0, .int 0, .int 0])), (a_5, .inl (cA_6, 0, .inr (.inl (fun _ => 0))))] H := hP
  have hD : va_D A [(h0, .inr (5, [.ref a_1, .int 0, .ref a_3, .ref a_5, .int 0, .int 0, .int 0])), (a_5, .inl (cA_6, 0, .inr (.inl (fun _ => 0))))] := hD
  have hP := hP.sub (ws' := [(h0, .inr (5, [.ref a_1, .int 0, .ref a_3, .ref a_5, .int 0, .int 0, .int 0]))]) [0] rfl
  have hD := hD.sub (ws' := [(h0, .inr (5, [.ref a_1, .int 0, .ref a_3, .ref a_5, .int 0, .int 0, .int 0]))]) [0] (by decide) rfl
  have hK := hK.sub (tys' := []) [] rfl
  have hK9 := hK.sub (tys' := []) [] rfl
  have hP9 := hP.sub (ws' := []) [] rfl
  have hD9 := hD.sub (ws' := []) [] (by decide) rfl
  exact W.vret hx hb hr (fun t ht hW => ⟨⟨(), rfl, trivial, by rw [ht]; exact hP9, va_K.moved hW.alike hK9, hD9⟩, hS.F ht⟩) hS.2.2 dX5_init_27
def wk_Machine : List Cond := .code yX2_init cX2_init 1 none :: ([.methodLink RX2 3 objectInit, .instanceMethod objectInit, .code objectInit ⟨#[0xb1]⟩ 1 none, .arrayClass .byte, .fieldLink RX2 9 "PutBack$Machine" "store" "[B", .classLink RX2 15 RX1, .fieldLink RX2 17 "PutBack$Machine" "waiting" "[LPutBack$Lens;", .arrayClass .int, .fieldLink RX2 21 "PutBack$Machine" "ranges" "[I", .fieldLink RX2 25 "PutBack$Machine" "marks" "[I", .classLink RX2 28 RX10, .instantiable RX10 18, .initialized RX10, .instanceMethod yX10_init, .code yX10_init cX10_init 1 none, .methodLink RX10 3 objectInit, .fieldLink RX10 9 "PutBack$Words" "told" "[B", .classLink RX10 15 RX1, .fieldLink RX10 17 "PutBack$Words" "lenses" "[LPutBack$Lens;", .fieldLink RX10 21 "PutBack$Words" "states" "[I", .fieldLink RX10 25 "PutBack$Words" "first" "[I", .arrayClass .long, .fieldLink RX10 28 "PutBack$Words" "times" "[J", .fieldLink RX10 32 "PutBack$Words" "rest" "[I", .fieldLink RX10 35 "PutBack$Words" "places" "[I", .fieldLink RX10 38 "PutBack$Words" "asked" "[I", .fieldLink RX10 41 "PutBack$Words" "answers" "[I", .fieldLink RX10 44 "PutBack$Words" "stack" "[I", .fieldLink RX10 47 "PutBack$Words" "stackTimes" "[J", .fieldLink RX2 31 "PutBack$Machine" "words" "LPutBack$Words;", .classLink RX2 35 RX5, .instantiable RX5 7, .initialized RX5, .instanceMethod yX5_init, .code yX5_init cX5_init 1 none, .methodLink RX5 5 objectInit, .fieldLink RX5 11 "PutBack$Recall" "told" "[B", .fieldLink RX5 15 "PutBack$Recall" "asked" "[J", .fieldLink RX5 19 "PutBack$Recall" "rows" "[J", .fieldLink RX2 38 "PutBack$Machine" "recall" "LPutBack$Recall;", .fieldLink RX2 42 "PutBack$Machine" "viewFrom" "[I", .fieldLink RX2 45 "PutBack$Machine" "viewTo" "[I", .fieldLink RX2 48 "PutBack$Machine" "sourceFrom" "[I", .fieldLink RX2 51 "PutBack$Machine" "sourceTo" "[I", .classLink RX2 54 RX3, .instantiable RX3 6, .initialized RX3, .instanceMethod yX3_init, .code yX3_init cX3_init 1 none, .methodLink RX3 3 objectInit, .fieldLink RX3 9 "PutBack$Parts" "from" "[I", .fieldLink RX3 15 "PutBack$Parts" "to" "[I", .fieldLink RX3 18 "PutBack$Parts" "keyFrom" "[I", .fieldLink RX3 21 "PutBack$Parts" "keyTo" "[I", .fieldLink RX3 24 "PutBack$Parts" "partner" "[I", .fieldLink RX2 57 "PutBack$Machine" "viewParts" "LPutBack$Parts;", .fieldLink RX2 61 "PutBack$Machine" "sourceParts" "LPutBack$Parts;"] ++ wsX20 ++ wsX30 ++ wsX50 ++ wsX100)
theorem ik_Machine_RX2 : ∀ w ∈ u_ws RX2 TX2 16, w ∈ wk_Machine := fun w h => List.mem_cons_of_mem _ (List.mem_append_left _ (List.mem_append_left _ (List.mem_append_left _ (List.mem_append_right _ h))))
theorem ik_Machine_RX3 : ∀ w ∈ u_ws RX3 TX3 6, w ∈ wk_Machine := fun w h => List.mem_cons_of_mem _ (List.mem_append_left _ (List.mem_append_left _ (List.mem_append_right _ h)))
theorem ik_Machine_RX5 : ∀ w ∈ u_ws RX5 TX5 7, w ∈ wk_Machine := fun w h => List.mem_cons_of_mem _ (List.mem_append_left _ (List.mem_append_right _ h))
theorem ik_Machine_RX10 : ∀ w ∈ u_ws RX10 TX10 18, w ∈ wk_Machine := fun w h => List.mem_cons_of_mem _ (List.mem_append_right _ h)
theorem gk_Machine_30g : GoodIn wk_Machine wk_Words := goodIn_r _ [15, 16, 2, 3, 4, 17, 18, 19, 8, 20, 21, 22, 23, 24, 25, 26, 27, 28, 29, 87, 88, 89, 90, 91, 92, 93, 94, 95, 96, 97, 98, 99, 100, 101, 102, 103, 104] (by decide +kernel) (by decide +kernel)
theorem gk_Machine_30 : GoodIn wk_Machine (wk_Words) := gk_Machine_30g
theorem gk_Machine_37g : GoodIn wk_Machine wk_Recall := goodIn_r _ [35, 36, 2, 3, 4, 37, 22, 38, 39, 80, 81, 82, 83, 84, 85, 86] (by decide +kernel) (by decide +kernel)
theorem gk_Machine_37 : GoodIn wk_Machine (wk_Recall) := gk_Machine_37g
theorem gk_Machine_56g : GoodIn wk_Machine wk_Parts := goodIn_r _ [49, 50, 2, 3, 8, 51, 52, 53, 54, 55, 74, 75, 76, 77, 78, 79] (by decide +kernel) (by decide +kernel)
theorem gk_Machine_56 : GoodIn wk_Machine (wk_Parts) := gk_Machine_56g
set_option maxHeartbeats 4000000 in
set_option maxRecDepth 100000 in
theorem k_Machine (l : Launch) (dC : Nat → ClassId) (dI : Nat → Nat → Nat) (sz : Nat) (h0 : Nat) : Met l yX2_init wk_Machine ({ frames := 2, cells := 36, slots := 3555, locals := 32 } : Room) (va_Pc [.ref h0] (fun U => U.heap.size = sz ∧ va_P (dC, dI) cls [(h0, .inr (2, [.null, .int 0, .null, .null, .int 0, .null, .int 0, .long 0, .null, .null, .null, .null, .null, .null, .null, .null]))] U.heap ∧ va_K (dC, dI) cls [] U ∧ va_D (fun _ => True) [(h0, .inr (2, [.null, .int 0, .null, .null, .int 0, .null, .int 0, .long 0, .null, .null, .null, .null, .null, .null, .null, .null]))] ∧ va_AO RX1 U ∧ va_Nw (.methodLinkNest RX2 30 yX10_init "PutBack") U ∧ va_Nw (.methodLinkNest RX2 37 yX5_init "PutBack") U ∧ va_Nw (.methodLinkNest RX2 56 yX3_init "PutBack") U)) (va_Qv (fun _ : Unit => True) (fun (_ : Unit) t => va_P (dC, dI) cls [] t.heap ∧ va_K (dC, dI) cls [] t ∧ va_D (va_A [(h0, .inr (2, [.null, .int 0, .null, .null, .int 0, .null, .int 0, .long 0, .null, .null, .null, .null, .null, .null, .null, .null]))] sz) []) (va_A [(h0, .inr (2, [.null, .int 0, .null, .null, .int 0, .null, .int 0, .long 0, .null, .null, .null, .null, .null, .null, .null, .null]))] sz)) 36 3555 (va_A [(h0, .inr (2, [.null, .int 0, .null, .null, .int 0, .null, .int 0, .long 0, .null, .null, .null, .null, .null, .null, .null, .null]))] sz) := by
  refine Met.ofW (cc := cX2_init) (maxL := 1) (ret := none) (by decide) rfl ?_
  intro p e s m args below meth c s₁ B hml hv
  obtain ⟨rfl, hsz, hP, hK, hD0, n_O_RX1, n_M_RX2_30_yX10_init_PutBack, n_M_RX2_37_yX5_init_PutBack, n_M_RX2_56_yX3_init_PutBack⟩ := hv
  have hx := B.exec
  have hb := B.bytes
  have hr := B.returns
  have hts := atoms_spec (ws := wk_Machine) B.pre
  have hown : s.vm.findClass RX2 = some m.cls := findClass_of_methodNamed B.named
  have hlocks := B.notSynchronized
  have hin : meth.name = "<init>" := (name_of_methodNamed B.named B.method).1
  subst hsz
  have hD := hD0.self (sz := s.heap.size)
  generalize hAe : va_A [(h0, .inr (2, [.null, .int 0, .null, .null, .int 0, .null, .int 0, .long 0, .null, .null, .null, .null, .null, .null, .null, .null]))] s.heap.size = A at hD ⊢
  have hA : ∀ q : Nat, s.heap.size ≤ q → A q := fun q h => by rw [← hAe]; exact Or.inr h
  have hP : va_P (dC, dI) cls [(h0, .inr (2, [.null, .int 0, .null, .null, .int 0, .null, .int 0, .long 0, .null, .null, .null, .null, .null, .null, .null, .null]))] s.heap := hP
  have hl := lv_entry ([.ref h0]) (n := 1) (Nat.le_of_ble_eq_true rfl)
  rw [lg_entry_eq]
  generalize (lg_sl ([.ref h0]) ++ List.replicate (1 - (lg_sl ([.ref h0])).length) Slot.unset).toArray = ls at hl ⊢
  have hl : lv_has ls 1 [(0, .ref h0)] := hl
  obtain ⟨H, hH⟩ : ∃ H : Heap, s.heap = H := ⟨_, rfl⟩
  rw [hH] at hP ⊢
  have hS : va_S A s.heap H [] := by rw [← hH]; exact va_S.rf
  refine lv_aload_n hx hb dX2_init_0 rfl (lv_at hl 0 rfl) ?_
  refine W.objInit hx hb hown (hts (.methodLink RX2 3 objectInit) (by decide +kernel)) (hts (.instanceMethod objectInit) (by decide +kernel)) (hts (.code objectInit ⟨#[0xb1]⟩ 1 none) (by decide +kernel)) rfl (by rw [hml]; exact hl.1) rfl dX2_init_1 (Nat.le_of_ble_eq_true rfl) (Nat.le_of_ble_eq_true rfl) ?_
  refine W.eq (g2 := F0 m 4 ls []) rfl ?_
  refine lv_aload_n hx hb dX2_init_4 rfl (lv_at hl 0 rfl) ?_
  refine lv_sipush (v := 960) hx hb dX2_init_5 (by decide) ?_
  refine va_newa (atype := .byte) (ty := .byte) (N' := 960) (a0 := (960, .inl (fun _ => 0))) hx hb (hts (.arrayClass .byte) (by decide +kernel)) rfl hK hP hD hS hA (fun _ => rfl) (by decide) (by decide) (Nat.le_of_ble_eq_true rfl) (Nat.le_of_ble_eq_true rfl) (Nat.le_of_ble_eq_true rfl) dX2_init_8 (fun a_1 cA_2 H hK hP hD hS => ?_)
  refine W.widen (k := 1) (n := 960) (Nat.le_of_ble_eq_true rfl) (Nat.le_of_ble_eq_true rfl) ?_
  have hP : va_P (dC, dI) cls [(h0, .inr (2, [.null, .int 0, .null, .null, .int 0, .null, .int 0, .long 0, .null, .null, .null, .null, .null, .null, .null, .null])), (a_1, .inl (cA_2, 960, .inl (fun _ => 0)))] H := hP
  have hD : va_D A [(h0, .inr (2, [.null, .int 0, .null, .null, .int 0, .null, .int 0, .long 0, .null, .null, .null, .null, .null, .null, .null, .null])), (a_1, .inl (cA_2, 960, .inl (fun _ => 0)))] := hD
  have hK : va_K (dC, dI) cls [(cA_2, .byte)] s := hK
  refine va_put (D := (dC, dI)) (ci := 2) (v := .ref a_1) (ty := (.array .byte)) (C := RX2) (T := TX2) (N := 16) hx hb hts ik_Machine_RX2 tyX2 tyX2_ok nmX2 hown hK hP hD hS 0 rfl rfl 0 (by decide) (hts (.fieldLink RX2 9 "PutBack$Machine" "store" "[B") (by decide +kernel)) (fun _ h9 => h9) rfl (by decide +kernel) rfl rfl (Nat.le_of_ble_eq_true rfl) dX2_init_10 (fun H locs hP hD hS => ?_)
  have hP : va_P (dC, dI) cls [(h0, .inr (2, [.ref a_1, .int 0, .null, .null, .int 0, .null, .int 0, .long 0, .null, .null, .null, .null, .null, .null, .null, .null])), (a_1, .inl (cA_2, 960, .inl (fun _ => 0)))] H := hP
  have hD : va_D A [(h0, .inr (2, [.ref a_1, .int 0, .null, .null, .int 0, .null, .int 0, .long 0, .null, .null, .null, .null, .null, .null, .null, .null])), (a_1, .inl (cA_2, 960, .inl (fun _ => 0)))] := hD
  have hP := hP.sub (ws' := [(h0, .inr (2, [.ref a_1, .int 0, .null, .null, .int 0, .null, .int 0, .long 0, .null, .null, .null, .null, .null, .null, .null, .null]))]) [0] rfl
  have hD := hD.sub (ws' := [(h0, .inr (2, [.ref a_1, .int 0, .null, .null, .int 0, .null, .int 0, .long 0, .null, .null, .null, .null, .null, .null, .null, .null]))]) [0] (by decide) rfl
  have hK := hK.sub (tys' := []) [] rfl
  refine lv_aload_n hx hb dX2_init_13 rfl (lv_at hl 0 rfl) ?_
  refine lv_sipush (v := 256) hx hb dX2_init_14 (by decide) ?_
  refine va_newq (C := RX1) (N' := 256) hx hb hown (hts (.classLink RX2 15 RX1) (by decide +kernel)) n_O_RX1 hK hP hD hS hA (by decide) (by decide) (Nat.le_of_ble_eq_true rfl) (Nat.le_of_ble_eq_true rfl) (Nat.le_of_ble_eq_true rfl) dX2_init_17 (fun a_3 cA_4 H hK hP hD hS => ?_)
  refine W.widen (k := 2) (n := 1216) (Nat.le_of_ble_eq_true rfl) (Nat.le_of_ble_eq_true rfl) ?_
  have hP : va_P (dC, dI) cls [(h0, .inr (2, [.ref a_1, .int 0, .null, .null, .int 0, .null, .int 0, .long 0, .null, .null, .null, .null, .null, .null, .null, .null])), (a_3, .inl (cA_4, 256, .inr (.inr (.inr (.inr (fun _ => none))))))] H := hP
  have hD : va_D A [(h0, .inr (2, [.ref a_1, .int 0, .null, .null, .int 0, .null, .int 0, .long 0, .null, .null, .null, .null, .null, .null, .null, .null])), (a_3, .inl (cA_4, 256, .inr (.inr (.inr (.inr (fun _ => none))))))] := hD
  have hK : va_K (dC, dI) cls [(cA_4, .object RX1)] s := hK
  refine va_put (D := (dC, dI)) (ci := 2) (v := .ref a_3) (ty := (.array (.object "PutBack$Lens"))) (C := RX2) (T := TX2) (N := 16) hx hb hts ik_Machine_RX2 tyX2 tyX2_ok nmX2 hown hK hP hD hS 0 rfl rfl 2 (by decide) (hts (.fieldLink RX2 17 "PutBack$Machine" "waiting" "[LPutBack$Lens;") (by decide +kernel)) (fun _ h9 => h9) rfl (by decide +kernel) rfl rfl (Nat.le_of_ble_eq_true rfl) dX2_init_20 (fun H locs hP hD hS => ?_)
  have hP : va_P (dC, dI) cls [(h0, .inr (2, [.ref a_1, .int 0, .ref a_3, .null, .int 0, .null, .int 0, .long 0, .null, .null, .null, .null, .null, .null, .null, .null])), (a_3, .inl (cA_4, 256, .inr (.inr (.inr (.inr (fun _ => none))))))] H := hP
  have hD : va_D A [(h0, .inr (2, [.ref a_1, .int 0, .ref a_3, .null, .int 0, .null, .int 0, .long 0, .null, .null, .null, .null, .null, .null, .null, .null])), (a_3, .inl (cA_4, 256, .inr (.inr (.inr (.inr (fun _ => none))))))] := hD
  have hP := hP.sub (ws' := [(h0, .inr (2, [.ref a_1, .int 0, .ref a_3, .null, .int 0, .null, .int 0, .long 0, .null, .null, .null, .null, .null, .null, .null, .null]))]) [0] rfl
  have hD := hD.sub (ws' := [(h0, .inr (2, [.ref a_1, .int 0, .ref a_3, .null, .int 0, .null, .int 0, .long 0, .null, .null, .null, .null, .null, .null, .null, .null]))]) [0] (by decide) rfl
  have hK := hK.sub (tys' := []) [] rfl
  refine lv_aload_n hx hb dX2_init_23 rfl (lv_at hl 0 rfl) ?_
  refine lv_sipush (v := 1024) hx hb dX2_init_24 (by decide) ?_
  refine va_newa (atype := .int) (ty := .int) (N' := 1024) (a0 := (1024, .inl (fun _ => 0))) hx hb (hts (.arrayClass .int) (by decide +kernel)) rfl hK hP hD hS hA (fun _ => rfl) (by decide) (by decide) (Nat.le_of_ble_eq_true rfl) (Nat.le_of_ble_eq_true rfl) (Nat.le_of_ble_eq_true rfl) dX2_init_27 (fun a_5 cA_6 H hK hP hD hS => ?_)
  refine W.widen (k := 3) (n := 2240) (Nat.le_of_ble_eq_true rfl) (Nat.le_of_ble_eq_true rfl) ?_
  have hP : va_P (dC, dI) cls [(h0, .inr (2, [.ref a_1, .int 0, .ref a_3, .null, .int 0, .null, .int 0, .long 0, .null, .null, .null, .null, .null, .null, .null, .null])), (a_5, .inl (cA_6, 1024, .inl (fun _ => 0)))] H := hP
  have hD : va_D A [(h0, .inr (2, [.ref a_1, .int 0, .ref a_3, .null, .int 0, .null, .int 0, .long 0, .null, .null, .null, .null, .null, .null, .null, .null])), (a_5, .inl (cA_6, 1024, .inl (fun _ => 0)))] := hD
  have hK : va_K (dC, dI) cls [(cA_6, .int)] s := hK
  refine va_put (D := (dC, dI)) (ci := 2) (v := .ref a_5) (ty := (.array .int)) (C := RX2) (T := TX2) (N := 16) hx hb hts ik_Machine_RX2 tyX2 tyX2_ok nmX2 hown hK hP hD hS 0 rfl rfl 3 (by decide) (hts (.fieldLink RX2 21 "PutBack$Machine" "ranges" "[I") (by decide +kernel)) (fun _ h9 => h9) rfl (by decide +kernel) rfl rfl (Nat.le_of_ble_eq_true rfl) dX2_init_29 (fun H locs hP hD hS => ?_)
  have hP : va_P (dC, dI) cls [(h0, .inr (2, [.ref a_1, .int 0, .ref a_3, .ref a_5, .int 0, .null, .int 0, .long 0, .null, .null, .null, .null, .null, .null, .null, .null])), (a_5, .inl (cA_6, 1024, .inl (fun _ => 0)))] H := hP
  have hD : va_D A [(h0, .inr (2, [.ref a_1, .int 0, .ref a_3, .ref a_5, .int 0, .null, .int 0, .long 0, .null, .null, .null, .null, .null, .null, .null, .null])), (a_5, .inl (cA_6, 1024, .inl (fun _ => 0)))] := hD
  have hP := hP.sub (ws' := [(h0, .inr (2, [.ref a_1, .int 0, .ref a_3, .ref a_5, .int 0, .null, .int 0, .long 0, .null, .null, .null, .null, .null, .null, .null, .null]))]) [0] rfl
  have hD := hD.sub (ws' := [(h0, .inr (2, [.ref a_1, .int 0, .ref a_3, .ref a_5, .int 0, .null, .int 0, .long 0, .null, .null, .null, .null, .null, .null, .null, .null]))]) [0] (by decide) rfl
  have hK := hK.sub (tys' := []) [] rfl
  refine lv_aload_n hx hb dX2_init_32 rfl (lv_at hl 0 rfl) ?_
  refine lv_bipush (v := 64) hx hb dX2_init_33 (by decide) ?_
  refine va_newa (atype := .int) (ty := .int) (N' := 64) (a0 := (64, .inl (fun _ => 0))) hx hb (hts (.arrayClass .int) (by decide +kernel)) rfl hK hP hD hS hA (fun _ => rfl) (by decide) (by decide) (Nat.le_of_ble_eq_true rfl) (Nat.le_of_ble_eq_true rfl) (Nat.le_of_ble_eq_true rfl) dX2_init_35 (fun a_7 cA_8 H hK hP hD hS => ?_)
  refine W.widen (k := 4) (n := 2304) (Nat.le_of_ble_eq_true rfl) (Nat.le_of_ble_eq_true rfl) ?_
  have hP : va_P (dC, dI) cls [(h0, .inr (2, [.ref a_1, .int 0, .ref a_3, .ref a_5, .int 0, .null, .int 0, .long 0, .null, .null, .null, .null, .null, .null, .null, .null])), (a_7, .inl (cA_8, 64, .inl (fun _ => 0)))] H := hP
  have hD : va_D A [(h0, .inr (2, [.ref a_1, .int 0, .ref a_3, .ref a_5, .int 0, .null, .int 0, .long 0, .null, .null, .null, .null, .null, .null, .null, .null])), (a_7, .inl (cA_8, 64, .inl (fun _ => 0)))] := hD
  have hK : va_K (dC, dI) cls [(cA_8, .int)] s := hK
  refine va_put (D := (dC, dI)) (ci := 2) (v := .ref a_7) (ty := (.array .int)) (C := RX2) (T := TX2) (N := 16) hx hb hts ik_Machine_RX2 tyX2 tyX2_ok nmX2 hown hK hP hD hS 0 rfl rfl 5 (by decide) (hts (.fieldLink RX2 25 "PutBack$Machine" "marks" "[I") (by decide +kernel)) (fun _ h9 => h9) rfl (by decide +kernel) rfl rfl (Nat.le_of_ble_eq_true rfl) dX2_init_37 (fun H locs hP hD hS => ?_)
  have hP : va_P (dC, dI) cls [(h0, .inr (2, [.ref a_1, .int 0, .ref a_3, .ref a_5, .int 0, .ref a_7, .int 0, .long 0, .null, .null, .null, .null, .null, .null, .null, .null])), (a_7, .inl (cA_8, 64, .inl (fun _ => 0)))] H := hP
  have hD : va_D A [(h0, .inr (2, [.ref a_1, .int 0, .ref a_3, .ref a_5, .int 0, .ref a_7, .int 0, .long 0, .null, .null, .null, .null, .null, .null, .null, .null])), (a_7, .inl (cA_8, 64, .inl (fun _ => 0)))] := hD
  have hP := hP.sub (ws' := [(h0, .inr (2, [.ref a_1, .int 0, .ref a_3, .ref a_5, .int 0, .ref a_7, .int 0, .long 0, .null, .null, .null, .null, .null, .null, .null, .null]))]) [0] rfl
  have hD := hD.sub (ws' := [(h0, .inr (2, [.ref a_1, .int 0, .ref a_3, .ref a_5, .int 0, .ref a_7, .int 0, .long 0, .null, .null, .null, .null, .null, .null, .null, .null]))]) [0] (by decide) rfl
  have hK := hK.sub (tys' := []) [] rfl
  refine lv_aload_n hx hb dX2_init_40 rfl (lv_at hl 0 rfl) ?_
  refine va_new (ci := 10) (fs := [.null, .null, .null, .int 0, .null, .null, .null, .int 0, .null, .null, .null, .int 0, .null, .null, .int 0, .int 0, .int 0, .int 0]) (C := RX10) (T := TX10) (N := 18) hx hb hts ik_Machine_RX10 tyX10 tyX10_ok hown (hts (.classLink RX2 28 RX10) (by decide +kernel)) (hts (.instantiable RX10 18) (by decide +kernel)) (hts (.initialized RX10) (by decide +kernel)) hK hP hD hS hA rfl (fun j hj => by rcases (show j = 0 ∨ j = 1 ∨ j = 2 ∨ j = 3 ∨ j = 4 ∨ j = 5 ∨ j = 6 ∨ j = 7 ∨ j = 8 ∨ j = 9 ∨ j = 10 ∨ j = 11 ∨ j = 12 ∨ j = 13 ∨ j = 14 ∨ j = 15 ∨ j = 16 ∨ j = 17 by omega) with rfl | rfl | rfl | rfl | rfl | rfl | rfl | rfl | rfl | rfl | rfl | rfl | rfl | rfl | rfl | rfl | rfl | rfl <;> rfl) (Nat.le_of_ble_eq_true rfl) (Nat.le_of_ble_eq_true rfl) dX2_init_41 (fun a_9 H hP hD hS => ?_)
  refine W.widen (k := 5) (n := 2322) (Nat.le_of_ble_eq_true rfl) (Nat.le_of_ble_eq_true rfl) ?_
  have hP : va_P (dC, dI) cls [(h0, .inr (2, [.ref a_1, .int 0, .ref a_3, .ref a_5, .int 0, .ref a_7, .int 0, .long 0, .null, .null, .null, .null, .null, .null, .null, .null])), (a_9, .inr (10, [.null, .null, .null, .int 0, .null, .null, .null, .int 0, .null, .null, .null, .int 0, .null, .null, .int 0, .int 0, .int 0, .int 0]))] H := hP
  have hD : va_D A [(h0, .inr (2, [.ref a_1, .int 0, .ref a_3, .ref a_5, .int 0, .ref a_7, .int 0, .long 0, .null, .null, .null, .null, .null, .null, .null, .null])), (a_9, .inr (10, [.null, .null, .null, .int 0, .null, .null, .null, .int 0, .null, .null, .null, .int 0, .null, .null, .int 0, .int 0, .int 0, .int 0]))] := hD
  refine lv_dup hx hb dX2_init_44 rfl ?_
  have hPc := hP.sub (ws' := [(a_9, .inr (10, [.null, .null, .null, .int 0, .null, .null, .null, .int 0, .null, .null, .null, .int 0, .null, .null, .int 0, .int 0, .int 0, .int 0]))]) [1] rfl
  have hDc := hD.sub (ws' := [(a_9, .inr (10, [.null, .null, .null, .int 0, .null, .null, .null, .int 0, .null, .null, .null, .int 0, .null, .null, .int 0, .int 0, .int 0, .int 0]))]) [1] (by decide) rfl
  have hKc := hK.sub (tys' := []) [] rfl
  have hFc := va_free (wc := [(a_9, .inr (10, [.null, .null, .null, .int 0, .null, .null, .null, .int 0, .null, .null, .null, .int 0, .null, .null, .int 0, .int 0, .int 0, .int 0]))]) hD hS hA [1] rfl
  refine va_callv (va_runIN (As := []) (rest := [.ref a_9, .ref h0]) ⟨hx, hb, hml, hown, hts⟩ (k_Words l dC dI H.size a_9) ⟨va_cnB 0 hts gk_Machine_30 rfl rfl rfl n_M_RX2_30_yX10_init_PutBack (hts (.initialized RX10) (by decide +kernel)) (by decide +kernel) ⟨Nat.le_of_ble_eq_true rfl, Nat.le_of_ble_eq_true rfl⟩, rfl, (hts (.instanceMethod yX10_init) (by decide +kernel))⟩ ⟨fun a U g mk q => by obtain ⟨q0, q1, qP, qK, qD, z0⟩ := q; exact ⟨q0, q1, qP, va_K.moved (u := U) (U := U.calling g mk a) (Vm.Alike.refl U.vm) qK, qD, va_AO.moved (Vm.Alike.refl U.vm) z0⟩, fun U hU hW => ⟨rfl, by rw [hU], by rw [hU]; exact hPc, va_K.moved hW.alike hKc, hDc.weaken (fun _ _ _ _ => trivial), va_AO.moved hW.alike n_O_RX1⟩⟩ rfl rfl hl.1 rfl (lv_room (Nat.le_of_ble_eq_true rfl)) dX2_init_45 ⟨Nat.le_of_ble_eq_true rfl, Nat.le_of_ble_eq_true rfl⟩) hS (fun q _ h => hFc q h) hFc (fun u t H1 locs ht hvm hw hB hz1 hk1 hS => ?_)
  obtain ⟨hP1, hK1, hD1⟩ := hB
  rw [ht] at hP1
  try dsimp only at hw
  obtain ⟨hP, hD⟩ := va_join (wr := [(h0, .inr (2, [.ref a_1, .int 0, .ref a_3, .ref a_5, .int 0, .ref a_7, .int 0, .long 0, .null, .null, .null, .null, .null, .null, .null, .null]))]) (w1 := []) hP hD [1] [0] rfl rfl (by decide) (by decide) hk1 hFc hP1 hD1
  clear hk1 hz1 hPc hDc hFc hP1 hD1 hK1 hKc
  generalize H1 = H at hP hS ⊢
  have hP : va_P (dC, dI) cls [(h0, .inr (2, [.ref a_1, .int 0, .ref a_3, .ref a_5, .int 0, .ref a_7, .int 0, .long 0, .null, .null, .null, .null, .null, .null, .null, .null]))] H := hP
  have hD : va_D A [(h0, .inr (2, [.ref a_1, .int 0, .ref a_3, .ref a_5, .int 0, .ref a_7, .int 0, .long 0, .null, .null, .null, .null, .null, .null, .null, .null]))] := hD
  refine W.widen (k := 16) (n := 2382) (by omega) (by omega) ?_
  refine va_putF (D := (dC, dI)) (ci := 2) (v := .ref a_9) (ty := (.object "PutBack$Words")) (C := RX2) (T := TX2) (N := 16) hx hb hts ik_Machine_RX2 tyX2 tyX2_ok nmX2 hown hK hP hD hS 0 rfl rfl 8 (by decide) (hts (.fieldLink RX2 31 "PutBack$Machine" "words" "LPutBack$Words;") (by decide +kernel)) (fun _ h9 => h9) rfl hin rfl (by decide +kernel) rfl rfl (Nat.le_of_ble_eq_true rfl) dX2_init_48 (fun H locs hP hD hS => ?_)
  have hP : va_P (dC, dI) cls [(h0, .inr (2, [.ref a_1, .int 0, .ref a_3, .ref a_5, .int 0, .ref a_7, .int 0, .long 0, .ref a_9, .null, .null, .null, .null, .null, .null, .null]))] H := hP
  have hD : va_D A [(h0, .inr (2, [.ref a_1, .int 0, .ref a_3, .ref a_5, .int 0, .ref a_7, .int 0, .long 0, .ref a_9, .null, .null, .null, .null, .null, .null, .null]))] := hD
  refine lv_aload_n hx hb dX2_init_51 rfl (lv_at hl 0 rfl) ?_
  refine va_new (ci := 5) (fs := [.null, .int 0, .null, .null, .int 0, .int 0, .int 0]) (C := RX5) (T := TX5) (N := 7) hx hb hts ik_Machine_RX5 tyX5 tyX5_ok hown (hts (.classLink RX2 35 RX5) (by decide +kernel)) (hts (.instantiable RX5 7) (by decide +kernel)) (hts (.initialized RX5) (by decide +kernel)) hK hP hD hS hA rfl (fun j hj => by rcases (show j = 0 ∨ j = 1 ∨ j = 2 ∨ j = 3 ∨ j = 4 ∨ j = 5 ∨ j = 6 by omega) with rfl | rfl | rfl | rfl | rfl | rfl | rfl <;> rfl) (Nat.le_of_ble_eq_true rfl) (Nat.le_of_ble_eq_true rfl) dX2_init_52 (fun a_12 H hP hD hS => ?_)
  refine W.widen (k := 17) (n := 2389) (Nat.le_of_ble_eq_true rfl) (Nat.le_of_ble_eq_true rfl) ?_
  have hP : va_P (dC, dI) cls [(h0, .inr (2, [.ref a_1, .int 0, .ref a_3, .ref a_5, .int 0, .ref a_7, .int 0, .long 0, .ref a_9, .null, .null, .null, .null, .null, .null, .null])), (a_12, .inr (5, [.null, .int 0, .null, .null, .int 0, .int 0, .int 0]))] H := hP
  have hD : va_D A [(h0, .inr (2, [.ref a_1, .int 0, .ref a_3, .ref a_5, .int 0, .ref a_7, .int 0, .long 0, .ref a_9, .null, .null, .null, .null, .null, .null, .null])), (a_12, .inr (5, [.null, .int 0, .null, .null, .int 0, .int 0, .int 0]))] := hD
  refine lv_dup hx hb dX2_init_55 rfl ?_
  have hPc := hP.sub (ws' := [(a_12, .inr (5, [.null, .int 0, .null, .null, .int 0, .int 0, .int 0]))]) [1] rfl
  have hDc := hD.sub (ws' := [(a_12, .inr (5, [.null, .int 0, .null, .null, .int 0, .int 0, .int 0]))]) [1] (by decide) rfl
  have hKc := hK.sub (tys' := []) [] rfl
  have hFc := va_free (wc := [(a_12, .inr (5, [.null, .int 0, .null, .null, .int 0, .int 0, .int 0]))]) hD hS hA [1] rfl
  refine va_callv (va_runIN (As := []) (rest := [.ref a_12, .ref h0]) ⟨hx, hb, hml, hown, hts⟩ (k_Recall l dC dI H.size a_12) ⟨va_cnB 0 hts gk_Machine_37 rfl rfl rfl n_M_RX2_37_yX5_init_PutBack (hts (.initialized RX5) (by decide +kernel)) (by decide +kernel) ⟨Nat.le_of_ble_eq_true rfl, Nat.le_of_ble_eq_true rfl⟩, rfl, (hts (.instanceMethod yX5_init) (by decide +kernel))⟩ ⟨fun a U g mk q => by obtain ⟨q0, q1, qP, qK, qD⟩ := q; exact ⟨q0, q1, qP, va_K.moved (u := U) (U := U.calling g mk a) (Vm.Alike.refl U.vm) qK, qD⟩, fun U hU hW => ⟨rfl, by rw [hU], by rw [hU]; exact hPc, va_K.moved hW.alike hKc, hDc.weaken (fun _ _ _ _ => trivial)⟩⟩ rfl rfl hl.1 rfl (lv_room (Nat.le_of_ble_eq_true rfl)) dX2_init_56 ⟨Nat.le_of_ble_eq_true rfl, Nat.le_of_ble_eq_true rfl⟩) hS (fun q _ h => hFc q h) hFc (fun u t H1 locs ht hvm hw hB hz1 hk1 hS => ?_)
  obtain ⟨hP1, hK1, hD1⟩ := hB
  rw [ht] at hP1
  try dsimp only at hw
  obtain ⟨hP, hD⟩ := va_join (wr := [(h0, .inr (2, [.ref a_1, .int 0, .ref a_3, .ref a_5, .int 0, .ref a_7, .int 0, .long 0, .ref a_9, .null, .null, .null, .null, .null, .null, .null]))]) (w1 := []) hP hD [1] [0] rfl rfl (by decide) (by decide) hk1 hFc hP1 hD1
  clear hk1 hz1 hPc hDc hFc hP1 hD1 hK1 hKc
  generalize H1 = H at hP hS ⊢
  have hP : va_P (dC, dI) cls [(h0, .inr (2, [.ref a_1, .int 0, .ref a_3, .ref a_5, .int 0, .ref a_7, .int 0, .long 0, .ref a_9, .null, .null, .null, .null, .null, .null, .null]))] H := hP
  have hD : va_D A [(h0, .inr (2, [.ref a_1, .int 0, .ref a_3, .ref a_5, .int 0, .ref a_7, .int 0, .long 0, .ref a_9, .null, .null, .null, .null, .null, .null, .null]))] := hD
  refine W.widen (k := 20) (n := 2463) (by omega) (by omega) ?_
  refine va_putF (D := (dC, dI)) (ci := 2) (v := .ref a_12) (ty := (.object "PutBack$Recall")) (C := RX2) (T := TX2) (N := 16) hx hb hts ik_Machine_RX2 tyX2 tyX2_ok nmX2 hown hK hP hD hS 0 rfl rfl 9 (by decide) (hts (.fieldLink RX2 38 "PutBack$Machine" "recall" "LPutBack$Recall;") (by decide +kernel)) (fun _ h9 => h9) rfl hin rfl (by decide +kernel) rfl rfl (Nat.le_of_ble_eq_true rfl) dX2_init_59 (fun H locs hP hD hS => ?_)
  have hP : va_P (dC, dI) cls [(h0, .inr (2, [.ref a_1, .int 0, .ref a_3, .ref a_5, .int 0, .ref a_7, .int 0, .long 0, .ref a_9, .ref a_12, .null, .null, .null, .null, .null, .null]))] H := hP
  have hD : va_D A [(h0, .inr (2, [.ref a_1, .int 0, .ref a_3, .ref a_5, .int 0, .ref a_7, .int 0, .long 0, .ref a_9, .ref a_12, .null, .null, .null, .null, .null, .null]))] := hD
  refine lv_aload_n hx hb dX2_init_62 rfl (lv_at hl 0 rfl) ?_
  refine lv_bipush (v := 120) hx hb dX2_init_63 (by decide) ?_
  refine va_newa (atype := .int) (ty := .int) (N' := 120) (a0 := (120, .inl (fun _ => 0))) hx hb (hts (.arrayClass .int) (by decide +kernel)) rfl hK hP hD hS hA (fun _ => rfl) (by decide) (by decide) (Nat.le_of_ble_eq_true rfl) (Nat.le_of_ble_eq_true rfl) (Nat.le_of_ble_eq_true rfl) dX2_init_65 (fun a_15 cA_16 H hK hP hD hS => ?_)
  refine W.widen (k := 21) (n := 2583) (Nat.le_of_ble_eq_true rfl) (Nat.le_of_ble_eq_true rfl) ?_
  have hP : va_P (dC, dI) cls [(h0, .inr (2, [.ref a_1, .int 0, .ref a_3, .ref a_5, .int 0, .ref a_7, .int 0, .long 0, .ref a_9, .ref a_12, .null, .null, .null, .null, .null, .null])), (a_15, .inl (cA_16, 120, .inl (fun _ => 0)))] H := hP
  have hD : va_D A [(h0, .inr (2, [.ref a_1, .int 0, .ref a_3, .ref a_5, .int 0, .ref a_7, .int 0, .long 0, .ref a_9, .ref a_12, .null, .null, .null, .null, .null, .null])), (a_15, .inl (cA_16, 120, .inl (fun _ => 0)))] := hD
  have hK : va_K (dC, dI) cls [(cA_16, .int)] s := hK
  refine va_putF (D := (dC, dI)) (ci := 2) (v := .ref a_15) (ty := (.array .int)) (C := RX2) (T := TX2) (N := 16) hx hb hts ik_Machine_RX2 tyX2 tyX2_ok nmX2 hown hK hP hD hS 0 rfl rfl 10 (by decide) (hts (.fieldLink RX2 42 "PutBack$Machine" "viewFrom" "[I") (by decide +kernel)) (fun _ h9 => h9) rfl hin rfl (by decide +kernel) rfl rfl (Nat.le_of_ble_eq_true rfl) dX2_init_67 (fun H locs hP hD hS => ?_)
  have hP : va_P (dC, dI) cls [(h0, .inr (2, [.ref a_1, .int 0, .ref a_3, .ref a_5, .int 0, .ref a_7, .int 0, .long 0, .ref a_9, .ref a_12, .ref a_15, .null, .null, .null, .null, .null])), (a_15, .inl (cA_16, 120, .inl (fun _ => 0)))] H := hP
  have hD : va_D A [(h0, .inr (2, [.ref a_1, .int 0, .ref a_3, .ref a_5, .int 0, .ref a_7, .int 0, .long 0, .ref a_9, .ref a_12, .ref a_15, .null, .null, .null, .null, .null])), (a_15, .inl (cA_16, 120, .inl (fun _ => 0)))] := hD
  have hP := hP.sub (ws' := [(h0, .inr (2, [.ref a_1, .int 0, .ref a_3, .ref a_5, .int 0, .ref a_7, .int 0, .long 0, .ref a_9, .ref a_12, .ref a_15, .null, .null, .null, .null, .null]))]) [0] rfl
  have hD := hD.sub (ws' := [(h0, .inr (2, [.ref a_1, .int 0, .ref a_3, .ref a_5, .int 0, .ref a_7, .int 0, .long 0, .ref a_9, .ref a_12, .ref a_15, .null, .null, .null, .null, .null]))]) [0] (by decide) rfl
  have hK := hK.sub (tys' := []) [] rfl
  refine lv_aload_n hx hb dX2_init_70 rfl (lv_at hl 0 rfl) ?_
  refine lv_bipush (v := 120) hx hb dX2_init_71 (by decide) ?_
  refine va_newa (atype := .int) (ty := .int) (N' := 120) (a0 := (120, .inl (fun _ => 0))) hx hb (hts (.arrayClass .int) (by decide +kernel)) rfl hK hP hD hS hA (fun _ => rfl) (by decide) (by decide) (Nat.le_of_ble_eq_true rfl) (Nat.le_of_ble_eq_true rfl) (Nat.le_of_ble_eq_true rfl) dX2_init_73 (fun a_17 cA_18 H hK hP hD hS => ?_)
  refine W.widen (k := 22) (n := 2703) (Nat.le_of_ble_eq_true rfl) (Nat.le_of_ble_eq_true rfl) ?_
  have hP : va_P (dC, dI) cls [(h0, .inr (2, [.ref a_1, .int 0, .ref a_3, .ref a_5, .int 0, .ref a_7, .int 0, .long 0, .ref a_9, .ref a_12, .ref a_15, .null, .null, .null, .null, .null])), (a_17, .inl (cA_18, 120, .inl (fun _ => 0)))] H := hP
  have hD : va_D A [(h0, .inr (2, [.ref a_1, .int 0, .ref a_3, .ref a_5, .int 0, .ref a_7, .int 0, .long 0, .ref a_9, .ref a_12, .ref a_15, .null, .null, .null, .null, .null])), (a_17, .inl (cA_18, 120, .inl (fun _ => 0)))] := hD
  have hK : va_K (dC, dI) cls [(cA_18, .int)] s := hK
  refine va_putF (D := (dC, dI)) (ci := 2) (v := .ref a_17) (ty := (.array .int)) (C := RX2) (T := TX2) (N := 16) hx hb hts ik_Machine_RX2 tyX2 tyX2_ok nmX2 hown hK hP hD hS 0 rfl rfl 11 (by decide) (hts (.fieldLink RX2 45 "PutBack$Machine" "viewTo" "[I") (by decide +kernel)) (fun _ h9 => h9) rfl hin rfl (by decide +kernel) rfl rfl (Nat.le_of_ble_eq_true rfl) dX2_init_75 (fun H locs hP hD hS => ?_)
  have hP : va_P (dC, dI) cls [(h0, .inr (2, [.ref a_1, .int 0, .ref a_3, .ref a_5, .int 0, .ref a_7, .int 0, .long 0, .ref a_9, .ref a_12, .ref a_15, .ref a_17, .null, .null, .null, .null])), (a_17, .inl (cA_18, 120, .inl (fun _ => 0)))] H := hP
  have hD : va_D A [(h0, .inr (2, [.ref a_1, .int 0, .ref a_3, .ref a_5, .int 0, .ref a_7, .int 0, .long 0, .ref a_9, .ref a_12, .ref a_15, .ref a_17, .null, .null, .null, .null])), (a_17, .inl (cA_18, 120, .inl (fun _ => 0)))] := hD
  have hP := hP.sub (ws' := [(h0, .inr (2, [.ref a_1, .int 0, .ref a_3, .ref a_5, .int 0, .ref a_7, .int 0, .long 0, .ref a_9, .ref a_12, .ref a_15, .ref a_17, .null, .null, .null, .null]))]) [0] rfl
  have hD := hD.sub (ws' := [(h0, .inr (2, [.ref a_1, .int 0, .ref a_3, .ref a_5, .int 0, .ref a_7, .int 0, .long 0, .ref a_9, .ref a_12, .ref a_15, .ref a_17, .null, .null, .null, .null]))]) [0] (by decide) rfl
  have hK := hK.sub (tys' := []) [] rfl
  refine lv_aload_n hx hb dX2_init_78 rfl (lv_at hl 0 rfl) ?_
  refine lv_bipush (v := 120) hx hb dX2_init_79 (by decide) ?_
  refine va_newa (atype := .int) (ty := .int) (N' := 120) (a0 := (120, .inl (fun _ => 0))) hx hb (hts (.arrayClass .int) (by decide +kernel)) rfl hK hP hD hS hA (fun _ => rfl) (by decide) (by decide) (Nat.le_of_ble_eq_true rfl) (Nat.le_of_ble_eq_true rfl) (Nat.le_of_ble_eq_true rfl) dX2_init_81 (fun a_19 cA_20 H hK hP hD hS => ?_)
  refine W.widen (k := 23) (n := 2823) (Nat.le_of_ble_eq_true rfl) (Nat.le_of_ble_eq_true rfl) ?_
  have hP : va_P (dC, dI) cls [(h0, .inr (2, [.ref a_1, .int 0, .ref a_3, .ref a_5, .int 0, .ref a_7, .int 0, .long 0, .ref a_9, .ref a_12, .ref a_15, .ref a_17, .null, .null, .null, .null])), (a_19, .inl (cA_20, 120, .inl (fun _ => 0)))] H := hP
  have hD : va_D A [(h0, .inr (2, [.ref a_1, .int 0, .ref a_3, .ref a_5, .int 0, .ref a_7, .int 0, .long 0, .ref a_9, .ref a_12, .ref a_15, .ref a_17, .null, .null, .null, .null])), (a_19, .inl (cA_20, 120, .inl (fun _ => 0)))] := hD
  have hK : va_K (dC, dI) cls [(cA_20, .int)] s := hK
  refine va_putF (D := (dC, dI)) (ci := 2) (v := .ref a_19) (ty := (.array .int)) (C := RX2) (T := TX2) (N := 16) hx hb hts ik_Machine_RX2 tyX2 tyX2_ok nmX2 hown hK hP hD hS 0 rfl rfl 12 (by decide) (hts (.fieldLink RX2 48 "PutBack$Machine" "sourceFrom" "[I") (by decide +kernel)) (fun _ h9 => h9) rfl hin rfl (by decide +kernel) rfl rfl (Nat.le_of_ble_eq_true rfl) dX2_init_83 (fun H locs hP hD hS => ?_)
  have hP : va_P (dC, dI) cls [(h0, .inr (2, [.ref a_1, .int 0, .ref a_3, .ref a_5, .int 0, .ref a_7, .int 0, .long 0, .ref a_9, .ref a_12, .ref a_15, .ref a_17, .ref a_19, .null, .null, .null])), (a_19, .inl (cA_20, 120, .inl (fun _ => 0)))] H := hP
  have hD : va_D A [(h0, .inr (2, [.ref a_1, .int 0, .ref a_3, .ref a_5, .int 0, .ref a_7, .int 0, .long 0, .ref a_9, .ref a_12, .ref a_15, .ref a_17, .ref a_19, .null, .null, .null])), (a_19, .inl (cA_20, 120, .inl (fun _ => 0)))] := hD
  have hP := hP.sub (ws' := [(h0, .inr (2, [.ref a_1, .int 0, .ref a_3, .ref a_5, .int 0, .ref a_7, .int 0, .long 0, .ref a_9, .ref a_12, .ref a_15, .ref a_17, .ref a_19, .null, .null, .null]))]) [0] rfl
  have hD := hD.sub (ws' := [(h0, .inr (2, [.ref a_1, .int 0, .ref a_3, .ref a_5, .int 0, .ref a_7, .int 0, .long 0, .ref a_9, .ref a_12, .ref a_15, .ref a_17, .ref a_19, .null, .null, .null]))]) [0] (by decide) rfl
  have hK := hK.sub (tys' := []) [] rfl
  refine lv_aload_n hx hb dX2_init_86 rfl (lv_at hl 0 rfl) ?_
  refine lv_bipush (v := 120) hx hb dX2_init_87 (by decide) ?_
  refine va_newa (atype := .int) (ty := .int) (N' := 120) (a0 := (120, .inl (fun _ => 0))) hx hb (hts (.arrayClass .int) (by decide +kernel)) rfl hK hP hD hS hA (fun _ => rfl) (by decide) (by decide) (Nat.le_of_ble_eq_true rfl) (Nat.le_of_ble_eq_true rfl) (Nat.le_of_ble_eq_true rfl) dX2_init_89 (fun a_21 cA_22 H hK hP hD hS => ?_)
  refine W.widen (k := 24) (n := 2943) (Nat.le_of_ble_eq_true rfl) (Nat.le_of_ble_eq_true rfl) ?_
  have hP : va_P (dC, dI) cls [(h0, .inr (2, [.ref a_1, .int 0, .ref a_3, .ref a_5, .int 0, .ref a_7, .int 0, .long 0, .ref a_9, .ref a_12, .ref a_15, .ref a_17, .ref a_19, .null, .null, .null])), (a_21, .inl (cA_22, 120, .inl (fun _ => 0)))] H := hP
  have hD : va_D A [(h0, .inr (2, [.ref a_1, .int 0, .ref a_3, .ref a_5, .int 0, .ref a_7, .int 0, .long 0, .ref a_9, .ref a_12, .ref a_15, .ref a_17, .ref a_19, .null, .null, .null])), (a_21, .inl (cA_22, 120, .inl (fun _ => 0)))] := hD
  have hK : va_K (dC, dI) cls [(cA_22, .int)] s := hK
  refine va_putF (D := (dC, dI)) (ci := 2) (v := .ref a_21) (ty := (.array .int)) (C := RX2) (T := TX2) (N := 16) hx hb hts ik_Machine_RX2 tyX2 tyX2_ok nmX2 hown hK hP hD hS 0 rfl rfl 13 (by decide) (hts (.fieldLink RX2 51 "PutBack$Machine" "sourceTo" "[I") (by decide +kernel)) (fun _ h9 => h9) rfl hin rfl (by decide +kernel) rfl rfl (Nat.le_of_ble_eq_true rfl) dX2_init_91 (fun H locs hP hD hS => ?_)
  have hP : va_P (dC, dI) cls [(h0, .inr (2, [.ref a_1, .int 0, .ref a_3, .ref a_5, .int 0, .ref a_7, .int 0, .long 0, .ref a_9, .ref a_12, .ref a_15, .ref a_17, .ref a_19, .ref a_21, .null, .null])), (a_21, .inl (cA_22, 120, .inl (fun _ => 0)))] H := hP
  have hD : va_D A [(h0, .inr (2, [.ref a_1, .int 0, .ref a_3, .ref a_5, .int 0, .ref a_7, .int 0, .long 0, .ref a_9, .ref a_12, .ref a_15, .ref a_17, .ref a_19, .ref a_21, .null, .null])), (a_21, .inl (cA_22, 120, .inl (fun _ => 0)))] := hD
  have hP := hP.sub (ws' := [(h0, .inr (2, [.ref a_1, .int 0, .ref a_3, .ref a_5, .int 0, .ref a_7, .int 0, .long 0, .ref a_9, .ref a_12, .ref a_15, .ref a_17, .ref a_19, .ref a_21, .null, .null]))]) [0] rfl
  have hD := hD.sub (ws' := [(h0, .inr (2, [.ref a_1, .int 0, .ref a_3, .ref a_5, .int 0, .ref a_7, .int 0, .long 0, .ref a_9, .ref a_12, .ref a_15, .ref a_17, .ref a_19, .ref a_21, .null, .null]))]) [0] (by decide) rfl
  have hK := hK.sub (tys' := []) [] rfl
  refine lv_aload_n hx hb dX2_init_94 rfl (lv_at hl 0 rfl) ?_
  refine va_new (ci := 3) (fs := [.null, .null, .null, .null, .null, .int 0]) (C := RX3) (T := TX3) (N := 6) hx hb hts ik_Machine_RX3 tyX3 tyX3_ok hown (hts (.classLink RX2 54 RX3) (by decide +kernel)) (hts (.instantiable RX3 6) (by decide +kernel)) (hts (.initialized RX3) (by decide +kernel)) hK hP hD hS hA rfl (fun j hj => by rcases (show j = 0 ∨ j = 1 ∨ j = 2 ∨ j = 3 ∨ j = 4 ∨ j = 5 by omega) with rfl | rfl | rfl | rfl | rfl | rfl <;> rfl) (Nat.le_of_ble_eq_true rfl) (Nat.le_of_ble_eq_true rfl) dX2_init_95 (fun a_23 H hP hD hS => ?_)
  refine W.widen (k := 25) (n := 2949) (Nat.le_of_ble_eq_true rfl) (Nat.le_of_ble_eq_true rfl) ?_
  have hP : va_P (dC, dI) cls [(h0, .inr (2, [.ref a_1, .int 0, .ref a_3, .ref a_5, .int 0, .ref a_7, .int 0, .long 0, .ref a_9, .ref a_12, .ref a_15, .ref a_17, .ref a_19, .ref a_21, .null, .null])), (a_23, .inr (3, [.null, .null, .null, .null, .null, .int 0]))] H := hP
  have hD : va_D A [(h0, .inr (2, [.ref a_1, .int 0, .ref a_3, .ref a_5, .int 0, .ref a_7, .int 0, .long 0, .ref a_9, .ref a_12, .ref a_15, .ref a_17, .ref a_19, .ref a_21, .null, .null])), (a_23, .inr (3, [.null, .null, .null, .null, .null, .int 0]))] := hD
  refine lv_dup hx hb dX2_init_98 rfl ?_
  have hPc := hP.sub (ws' := [(a_23, .inr (3, [.null, .null, .null, .null, .null, .int 0]))]) [1] rfl
  have hDc := hD.sub (ws' := [(a_23, .inr (3, [.null, .null, .null, .null, .null, .int 0]))]) [1] (by decide) rfl
  have hKc := hK.sub (tys' := []) [] rfl
  have hFc := va_free (wc := [(a_23, .inr (3, [.null, .null, .null, .null, .null, .int 0]))]) hD hS hA [1] rfl
  refine va_callv (va_runIN (As := []) (rest := [.ref a_23, .ref h0]) ⟨hx, hb, hml, hown, hts⟩ (k_Parts l dC dI H.size a_23) ⟨va_cnB 0 hts gk_Machine_56 rfl rfl rfl n_M_RX2_56_yX3_init_PutBack (hts (.initialized RX3) (by decide +kernel)) (by decide +kernel) ⟨Nat.le_of_ble_eq_true rfl, Nat.le_of_ble_eq_true rfl⟩, rfl, (hts (.instanceMethod yX3_init) (by decide +kernel))⟩ ⟨fun a U g mk q => by obtain ⟨q0, q1, qP, qK, qD⟩ := q; exact ⟨q0, q1, qP, va_K.moved (u := U) (U := U.calling g mk a) (Vm.Alike.refl U.vm) qK, qD⟩, fun U hU hW => ⟨rfl, by rw [hU], by rw [hU]; exact hPc, va_K.moved hW.alike hKc, hDc.weaken (fun _ _ _ _ => trivial)⟩⟩ rfl rfl hl.1 rfl (lv_room (Nat.le_of_ble_eq_true rfl)) dX2_init_99 ⟨Nat.le_of_ble_eq_true rfl, Nat.le_of_ble_eq_true rfl⟩) hS (fun q _ h => hFc q h) hFc (fun u t H1 locs ht hvm hw hB hz1 hk1 hS => ?_)
  obtain ⟨hP1, hK1, hD1⟩ := hB
  rw [ht] at hP1
  try dsimp only at hw
  obtain ⟨hP, hD⟩ := va_join (wr := [(h0, .inr (2, [.ref a_1, .int 0, .ref a_3, .ref a_5, .int 0, .ref a_7, .int 0, .long 0, .ref a_9, .ref a_12, .ref a_15, .ref a_17, .ref a_19, .ref a_21, .null, .null]))]) (w1 := []) hP hD [1] [0] rfl rfl (by decide) (by decide) hk1 hFc hP1 hD1
  clear hk1 hz1 hPc hDc hFc hP1 hD1 hK1 hKc
  generalize H1 = H at hP hS ⊢
  have hP : va_P (dC, dI) cls [(h0, .inr (2, [.ref a_1, .int 0, .ref a_3, .ref a_5, .int 0, .ref a_7, .int 0, .long 0, .ref a_9, .ref a_12, .ref a_15, .ref a_17, .ref a_19, .ref a_21, .null, .null]))] H := hP
  have hD : va_D A [(h0, .inr (2, [.ref a_1, .int 0, .ref a_3, .ref a_5, .int 0, .ref a_7, .int 0, .long 0, .ref a_9, .ref a_12, .ref a_15, .ref a_17, .ref a_19, .ref a_21, .null, .null]))] := hD
  refine W.widen (k := 30) (n := 3249) (by omega) (by omega) ?_
  refine va_putF (D := (dC, dI)) (ci := 2) (v := .ref a_23) (ty := (.object "PutBack$Parts")) (C := RX2) (T := TX2) (N := 16) hx hb hts ik_Machine_RX2 tyX2 tyX2_ok nmX2 hown hK hP hD hS 0 rfl rfl 14 (by decide) (hts (.fieldLink RX2 57 "PutBack$Machine" "viewParts" "LPutBack$Parts;") (by decide +kernel)) (fun _ h9 => h9) rfl hin rfl (by decide +kernel) rfl rfl (Nat.le_of_ble_eq_true rfl) dX2_init_102 (fun H locs hP hD hS => ?_)
  have hP : va_P (dC, dI) cls [(h0, .inr (2, [.ref a_1, .int 0, .ref a_3, .ref a_5, .int 0, .ref a_7, .int 0, .long 0, .ref a_9, .ref a_12, .ref a_15, .ref a_17, .ref a_19, .ref a_21, .ref a_23, .null]))] H := hP
  have hD : va_D A [(h0, .inr (2, [.ref a_1, .int 0, .ref a_3, .ref a_5, .int 0, .ref a_7, .int 0, .long 0, .ref a_9, .ref a_12, .ref a_15, .ref a_17, .ref a_19, .ref a_21, .ref a_23, .null]))] := hD
  refine lv_aload_n hx hb dX2_init_105 rfl (lv_at hl 0 rfl) ?_
  refine va_new (ci := 3) (fs := [.null, .null, .null, .null, .null, .int 0]) (C := RX3) (T := TX3) (N := 6) hx hb hts ik_Machine_RX3 tyX3 tyX3_ok hown (hts (.classLink RX2 54 RX3) (by decide +kernel)) (hts (.instantiable RX3 6) (by decide +kernel)) (hts (.initialized RX3) (by decide +kernel)) hK hP hD hS hA rfl (fun j hj => by rcases (show j = 0 ∨ j = 1 ∨ j = 2 ∨ j = 3 ∨ j = 4 ∨ j = 5 by omega) with rfl | rfl | rfl | rfl | rfl | rfl <;> rfl) (Nat.le_of_ble_eq_true rfl) (Nat.le_of_ble_eq_true rfl) dX2_init_106 (fun a_26 H hP hD hS => ?_)
  refine W.widen (k := 31) (n := 3255) (Nat.le_of_ble_eq_true rfl) (Nat.le_of_ble_eq_true rfl) ?_
  have hP : va_P (dC, dI) cls [(h0, .inr (2, [.ref a_1, .int 0, .ref a_3, .ref a_5, .int 0, .ref a_7, .int 0, .long 0, .ref a_9, .ref a_12, .ref a_15, .ref a_17, .ref a_19, .ref a_21, .ref a_23, .null])), (a_26, .inr (3, [.null, .null, .null, .null, .null, .int 0]))] H := hP
  have hD : va_D A [(h0, .inr (2, [.ref a_1, .int 0, .ref a_3, .ref a_5, .int 0, .ref a_7, .int 0, .long 0, .ref a_9, .ref a_12, .ref a_15, .ref a_17, .ref a_19, .ref a_21, .ref a_23, .null])), (a_26, .inr (3, [.null, .null, .null, .null, .null, .int 0]))] := hD
  refine lv_dup hx hb dX2_init_109 rfl ?_
  have hPc := hP.sub (ws' := [(a_26, .inr (3, [.null, .null, .null, .null, .null, .int 0]))]) [1] rfl
  have hDc := hD.sub (ws' := [(a_26, .inr (3, [.null, .null, .null, .null, .null, .int 0]))]) [1] (by decide) rfl
  have hKc := hK.sub (tys' := []) [] rfl
  have hFc := va_free (wc := [(a_26, .inr (3, [.null, .null, .null, .null, .null, .int 0]))]) hD hS hA [1] rfl
  refine va_callv (va_runIN (As := []) (rest := [.ref a_26, .ref h0]) ⟨hx, hb, hml, hown, hts⟩ (k_Parts l dC dI H.size a_26) ⟨va_cnB 0 hts gk_Machine_56 rfl rfl rfl n_M_RX2_56_yX3_init_PutBack (hts (.initialized RX3) (by decide +kernel)) (by decide +kernel) ⟨Nat.le_of_ble_eq_true rfl, Nat.le_of_ble_eq_true rfl⟩, rfl, (hts (.instanceMethod yX3_init) (by decide +kernel))⟩ ⟨fun a U g mk q => by obtain ⟨q0, q1, qP, qK, qD⟩ := q; exact ⟨q0, q1, qP, va_K.moved (u := U) (U := U.calling g mk a) (Vm.Alike.refl U.vm) qK, qD⟩, fun U hU hW => ⟨rfl, by rw [hU], by rw [hU]; exact hPc, va_K.moved hW.alike hKc, hDc.weaken (fun _ _ _ _ => trivial)⟩⟩ rfl rfl hl.1 rfl (lv_room (Nat.le_of_ble_eq_true rfl)) dX2_init_110 ⟨Nat.le_of_ble_eq_true rfl, Nat.le_of_ble_eq_true rfl⟩) hS (fun q _ h => hFc q h) hFc (fun u t H1 locs ht hvm hw hB hz1 hk1 hS => ?_)
  obtain ⟨hP1, hK1, hD1⟩ := hB
  rw [ht] at hP1
  try dsimp only at hw
  obtain ⟨hP, hD⟩ := va_join (wr := [(h0, .inr (2, [.ref a_1, .int 0, .ref a_3, .ref a_5, .int 0, .ref a_7, .int 0, .long 0, .ref a_9, .ref a_12, .ref a_15, .ref a_17, .ref a_19, .ref a_21, .ref a_23, .null]))]) (w1 := []) hP hD [1] [0] rfl rfl (by decide) (by decide) hk1 hFc hP1 hD1
  clear hk1 hz1 hPc hDc hFc hP1 hD1 hK1 hKc
  generalize H1 = H at hP hS ⊢
  have hP : va_P (dC, dI) cls [(h0, .inr (2, [.ref a_1, .int 0, .ref a_3, .ref a_5, .int 0, .ref a_7, .int 0, .long 0, .ref a_9, .ref a_12, .ref a_15, .ref a_17, .ref a_19, .ref a_21, .ref a_23, .null]))] H := hP
  have hD : va_D A [(h0, .inr (2, [.ref a_1, .int 0, .ref a_3, .ref a_5, .int 0, .ref a_7, .int 0, .long 0, .ref a_9, .ref a_12, .ref a_15, .ref a_17, .ref a_19, .ref a_21, .ref a_23, .null]))] := hD
  refine W.widen (k := 36) (n := 3555) (by omega) (by omega) ?_
  refine va_putF (D := (dC, dI)) (ci := 2) (v := .ref a_26) (ty := (.object "PutBack$Parts")) (C := RX2) (T := TX2) (N := 16) hx hb hts ik_Machine_RX2 tyX2 tyX2_ok nmX2 hown hK hP hD hS 0 rfl rfl 15 (by decide) (hts (.fieldLink RX2 61 "PutBack$Machine" "sourceParts" "LPutBack$Parts;") (by decide +kernel)) (fun _ h9 => h9) rfl hin rfl (by decide +kernel) rfl rfl (Nat.le_of_ble_eq_true rfl) dX2_init_113 (fun H locs hP hD hS => ?_)
  have hP : va_P (dC, dI) cls [(h0, .inr (2, [.ref a_1, .int 0, .ref a_3, .ref a_5, .int 0, .ref a_7, .int 0, .long 0, .ref a_9, .ref a_12, .ref a_15, .ref a_17, .ref a_19, .ref a_21, .ref a_23, .ref a_26]))] H := hP
  have hD : va_D A [(h0, .inr (2, [.ref a_1, .int 0, .ref a_3, .ref a_5, .int 0, .ref a_7, .int 0, .long 0, .ref a_9, .ref a_12, .ref a_15, .ref a_17, .ref a_19, .ref a_21, .ref a_23, .ref a_26]))] := hD
  have hK9 := hK.sub (tys' := []) [] rfl
  have hP9 := hP.sub (ws' := []) [] rfl
  have hD9 := hD.sub (ws' := []) [] (by decide) rfl
  exact W.vret hx hb hr (fun t ht hW => ⟨⟨(), rfl, trivial, by rw [ht]; exact hP9, va_K.moved hW.alike hK9, hD9⟩, hS.F ht⟩) hS.2.2 dX2_init_116
def wk_Trial : List Cond := .code yX8_init cX8_init 2 none :: ([.methodLink RX8 3 objectInit, .instanceMethod objectInit, .code objectInit ⟨#[0xb1]⟩ 1 none, .classLink RX8 9 RX6, .fieldLink RX8 11 "PutBack$Trial" "sources" "[LPutBack$Text;", .fieldLink RX8 17 "PutBack$Trial" "views" "[LPutBack$Text;", .fieldLink RX8 20 "PutBack$Trial" "backs" "[LPutBack$Text;", .arrayClass .boolean, .fieldLink RX8 23 "PutBack$Trial" "made" "[Z", .instantiable RX6 2, .initialized RX6, .instanceMethod yX6_init, .code yX6_init cX6_init 1 none, .methodLink RX6 3 objectInit, .arrayClass .byte, .fieldLink RX6 9 "PutBack$Text" "ranks" "[B", .fieldLink RX8 28 "PutBack$Trial" "outcome" "LPutBack$Text;"] ++ wsX60 ++ wsX80)
theorem ik_Trial_RX6 : ∀ w ∈ u_ws RX6 TX6 2, w ∈ wk_Trial := fun w h => List.mem_cons_of_mem _ (List.mem_append_left _ (List.mem_append_right _ h))
theorem ik_Trial_RX8 : ∀ w ∈ u_ws RX8 TX8 7, w ∈ wk_Trial := fun w h => List.mem_cons_of_mem _ (List.mem_append_right _ h)
theorem gk_Trial_27g : GoodIn wk_Trial wk_Text := goodIn_r _ [13, 14, 2, 3, 15, 16, 18, 19] (by decide +kernel) (by decide +kernel)
theorem gk_Trial_27 : GoodIn wk_Trial (wk_Text) := gk_Trial_27g
set_option maxHeartbeats 4000000 in
set_option maxRecDepth 100000 in
theorem k_Trial (l : Launch) (dC : Nat → ClassId) (dI : Nat → Nat → Nat) (sz : Nat) (h0 : Nat) : Met l yX8_init wk_Trial ({ frames := 2, cells := 36, slots := 1012, locals := 32 } : Room) (va_Pc [.ref h0] (fun U => U.heap.size = sz ∧ va_P (dC, dI) cls [(h0, .inr (8, [.null, .null, .null, .null, .null, .int 0, .int 0]))] U.heap ∧ va_K (dC, dI) cls [] U ∧ va_D (fun _ => True) [(h0, .inr (8, [.null, .null, .null, .null, .null, .int 0, .int 0]))] ∧ va_AO RX6 U ∧ va_Nw (.methodLinkNest RX8 27 yX6_init "PutBack") U)) (va_Qv (fun _ : Unit => True) (fun (_ : Unit) t => va_P (dC, dI) cls [] t.heap ∧ va_K (dC, dI) cls [] t ∧ va_D (va_A [(h0, .inr (8, [.null, .null, .null, .null, .null, .int 0, .int 0]))] sz) []) (va_A [(h0, .inr (8, [.null, .null, .null, .null, .null, .int 0, .int 0]))] sz)) 36 1012 (va_A [(h0, .inr (8, [.null, .null, .null, .null, .null, .int 0, .int 0]))] sz) := by
  refine Met.ofW (cc := cX8_init) (maxL := 2) (ret := none) (by decide) rfl ?_
  intro p e s m args below meth c s₁ B hml hv
  obtain ⟨rfl, hsz, hP, hK, hD0, n_O_RX6, n_M_RX8_27_yX6_init_PutBack⟩ := hv
  have hx := B.exec
  have hb := B.bytes
  have hr := B.returns
  have hts := atoms_spec (ws := wk_Trial) B.pre
  have hown : s.vm.findClass RX8 = some m.cls := findClass_of_methodNamed B.named
  have hlocks := B.notSynchronized
  have hin : meth.name = "<init>" := (name_of_methodNamed B.named B.method).1
  subst hsz
  have hD := hD0.self (sz := s.heap.size)
  generalize hAe : va_A [(h0, .inr (8, [.null, .null, .null, .null, .null, .int 0, .int 0]))] s.heap.size = A at hD ⊢
  have hA : ∀ q : Nat, s.heap.size ≤ q → A q := fun q h => by rw [← hAe]; exact Or.inr h
  have hP : va_P (dC, dI) cls [(h0, .inr (8, [.null, .null, .null, .null, .null, .int 0, .int 0]))] s.heap := hP
  have hl := lv_entry ([.ref h0]) (n := 2) (Nat.le_of_ble_eq_true rfl)
  rw [lg_entry_eq]
  generalize (lg_sl ([.ref h0]) ++ List.replicate (2 - (lg_sl ([.ref h0])).length) Slot.unset).toArray = ls at hl ⊢
  have hl : lv_has ls 2 [(0, .ref h0)] := hl
  obtain ⟨H, hH⟩ : ∃ H : Heap, s.heap = H := ⟨_, rfl⟩
  rw [hH] at hP ⊢
  have hS : va_S A s.heap H [] := by rw [← hH]; exact va_S.rf
  refine lv_aload_n hx hb dX8_init_0 rfl (lv_at hl 0 rfl) ?_
  refine W.objInit hx hb hown (hts (.methodLink RX8 3 objectInit) (by decide +kernel)) (hts (.instanceMethod objectInit) (by decide +kernel)) (hts (.code objectInit ⟨#[0xb1]⟩ 1 none) (by decide +kernel)) rfl (by rw [hml]; exact hl.1) rfl dX8_init_1 (Nat.le_of_ble_eq_true rfl) (Nat.le_of_ble_eq_true rfl) ?_
  refine W.eq (g2 := F0 m 4 ls []) rfl ?_
  refine lv_aload_n hx hb dX8_init_4 rfl (lv_at hl 0 rfl) ?_
  refine lv_iconst (v := 5) hx hb dX8_init_5 (by decide) ?_
  refine va_newq (C := RX6) (N' := 5) hx hb hown (hts (.classLink RX8 9 RX6) (by decide +kernel)) n_O_RX6 hK hP hD hS hA (by decide) (by decide) (Nat.le_of_ble_eq_true rfl) (Nat.le_of_ble_eq_true rfl) (Nat.le_of_ble_eq_true rfl) dX8_init_6 (fun a_1 cA_2 H hK hP hD hS => ?_)
  refine W.widen (k := 1) (n := 5) (Nat.le_of_ble_eq_true rfl) (Nat.le_of_ble_eq_true rfl) ?_
  have hP : va_P (dC, dI) cls [(h0, .inr (8, [.null, .null, .null, .null, .null, .int 0, .int 0])), (a_1, .inl (cA_2, 5, .inr (.inr (.inr (.inr (fun _ => none))))))] H := hP
  have hD : va_D A [(h0, .inr (8, [.null, .null, .null, .null, .null, .int 0, .int 0])), (a_1, .inl (cA_2, 5, .inr (.inr (.inr (.inr (fun _ => none))))))] := hD
  have hK : va_K (dC, dI) cls [(cA_2, .object RX6)] s := hK
  refine va_putF (D := (dC, dI)) (ci := 8) (v := .ref a_1) (ty := (.array (.object "PutBack$Text"))) (C := RX8) (T := TX8) (N := 7) hx hb hts ik_Trial_RX8 tyX8 tyX8_ok nmX8 hown hK hP hD hS 0 rfl rfl 0 (by decide) (hts (.fieldLink RX8 11 "PutBack$Trial" "sources" "[LPutBack$Text;") (by decide +kernel)) (fun _ h9 => h9) rfl hin rfl (by decide +kernel) rfl rfl (Nat.le_of_ble_eq_true rfl) dX8_init_9 (fun H locs hP hD hS => ?_)
  have hP : va_P (dC, dI) cls [(h0, .inr (8, [.ref a_1, .null, .null, .null, .null, .int 0, .int 0])), (a_1, .inl (cA_2, 5, .inr (.inr (.inr (.inr (fun _ => none))))))] H := hP
  have hD : va_D A [(h0, .inr (8, [.ref a_1, .null, .null, .null, .null, .int 0, .int 0])), (a_1, .inl (cA_2, 5, .inr (.inr (.inr (.inr (fun _ => none))))))] := hD
  refine lv_aload_n hx hb dX8_init_12 rfl (lv_at hl 0 rfl) ?_
  refine lv_iconst (v := 5) hx hb dX8_init_13 (by decide) ?_
  refine va_newq (C := RX6) (N' := 5) hx hb hown (hts (.classLink RX8 9 RX6) (by decide +kernel)) n_O_RX6 hK hP hD hS hA (by decide) (by decide) (Nat.le_of_ble_eq_true rfl) (Nat.le_of_ble_eq_true rfl) (Nat.le_of_ble_eq_true rfl) dX8_init_14 (fun a_3 cA_4 H hK hP hD hS => ?_)
  refine W.widen (k := 2) (n := 10) (Nat.le_of_ble_eq_true rfl) (Nat.le_of_ble_eq_true rfl) ?_
  have hP : va_P (dC, dI) cls [(h0, .inr (8, [.ref a_1, .null, .null, .null, .null, .int 0, .int 0])), (a_1, .inl (cA_2, 5, .inr (.inr (.inr (.inr (fun _ => none)))))), (a_3, .inl (cA_4, 5, .inr (.inr (.inr (.inr (fun _ => none))))))] H := hP
  have hD : va_D A [(h0, .inr (8, [.ref a_1, .null, .null, .null, .null, .int 0, .int 0])), (a_1, .inl (cA_2, 5, .inr (.inr (.inr (.inr (fun _ => none)))))), (a_3, .inl (cA_4, 5, .inr (.inr (.inr (.inr (fun _ => none))))))] := hD
  have hK : va_K (dC, dI) cls [(cA_2, .object RX6), (cA_4, .object RX6)] s := hK
  refine va_putF (D := (dC, dI)) (ci := 8) (v := .ref a_3) (ty := (.array (.object "PutBack$Text"))) (C := RX8) (T := TX8) (N := 7) hx hb hts ik_Trial_RX8 tyX8 tyX8_ok nmX8 hown hK hP hD hS 0 rfl rfl 1 (by decide) (hts (.fieldLink RX8 17 "PutBack$Trial" "views" "[LPutBack$Text;") (by decide +kernel)) (fun _ h9 => h9) rfl hin rfl (by decide +kernel) rfl rfl (Nat.le_of_ble_eq_true rfl) dX8_init_17 (fun H locs hP hD hS => ?_)
  have hP : va_P (dC, dI) cls [(h0, .inr (8, [.ref a_1, .ref a_3, .null, .null, .null, .int 0, .int 0])), (a_1, .inl (cA_2, 5, .inr (.inr (.inr (.inr (fun _ => none)))))), (a_3, .inl (cA_4, 5, .inr (.inr (.inr (.inr (fun _ => none))))))] H := hP
  have hD : va_D A [(h0, .inr (8, [.ref a_1, .ref a_3, .null, .null, .null, .int 0, .int 0])), (a_1, .inl (cA_2, 5, .inr (.inr (.inr (.inr (fun _ => none)))))), (a_3, .inl (cA_4, 5, .inr (.inr (.inr (.inr (fun _ => none))))))] := hD
  refine lv_aload_n hx hb dX8_init_20 rfl (lv_at hl 0 rfl) ?_
  refine lv_iconst (v := 5) hx hb dX8_init_21 (by decide) ?_
  refine va_newq (C := RX6) (N' := 5) hx hb hown (hts (.classLink RX8 9 RX6) (by decide +kernel)) n_O_RX6 hK hP hD hS hA (by decide) (by decide) (Nat.le_of_ble_eq_true rfl) (Nat.le_of_ble_eq_true rfl) (Nat.le_of_ble_eq_true rfl) dX8_init_22 (fun a_5 cA_6 H hK hP hD hS => ?_)
  refine W.widen (k := 3) (n := 15) (Nat.le_of_ble_eq_true rfl) (Nat.le_of_ble_eq_true rfl) ?_
  have hP : va_P (dC, dI) cls [(h0, .inr (8, [.ref a_1, .ref a_3, .null, .null, .null, .int 0, .int 0])), (a_1, .inl (cA_2, 5, .inr (.inr (.inr (.inr (fun _ => none)))))), (a_3, .inl (cA_4, 5, .inr (.inr (.inr (.inr (fun _ => none)))))), (a_5, .inl (cA_6, 5, .inr (.inr (.inr (.inr (fun _ => none))))))] H := hP
  have hD : va_D A [(h0, .inr (8, [.ref a_1, .ref a_3, .null, .null, .null, .int 0, .int 0])), (a_1, .inl (cA_2, 5, .inr (.inr (.inr (.inr (fun _ => none)))))), (a_3, .inl (cA_4, 5, .inr (.inr (.inr (.inr (fun _ => none)))))), (a_5, .inl (cA_6, 5, .inr (.inr (.inr (.inr (fun _ => none))))))] := hD
  have hK : va_K (dC, dI) cls [(cA_2, .object RX6), (cA_4, .object RX6), (cA_6, .object RX6)] s := hK
  refine va_putF (D := (dC, dI)) (ci := 8) (v := .ref a_5) (ty := (.array (.object "PutBack$Text"))) (C := RX8) (T := TX8) (N := 7) hx hb hts ik_Trial_RX8 tyX8 tyX8_ok nmX8 hown hK hP hD hS 0 rfl rfl 2 (by decide) (hts (.fieldLink RX8 20 "PutBack$Trial" "backs" "[LPutBack$Text;") (by decide +kernel)) (fun _ h9 => h9) rfl hin rfl (by decide +kernel) rfl rfl (Nat.le_of_ble_eq_true rfl) dX8_init_25 (fun H locs hP hD hS => ?_)
  have hP : va_P (dC, dI) cls [(h0, .inr (8, [.ref a_1, .ref a_3, .ref a_5, .null, .null, .int 0, .int 0])), (a_1, .inl (cA_2, 5, .inr (.inr (.inr (.inr (fun _ => none)))))), (a_3, .inl (cA_4, 5, .inr (.inr (.inr (.inr (fun _ => none)))))), (a_5, .inl (cA_6, 5, .inr (.inr (.inr (.inr (fun _ => none))))))] H := hP
  have hD : va_D A [(h0, .inr (8, [.ref a_1, .ref a_3, .ref a_5, .null, .null, .int 0, .int 0])), (a_1, .inl (cA_2, 5, .inr (.inr (.inr (.inr (fun _ => none)))))), (a_3, .inl (cA_4, 5, .inr (.inr (.inr (.inr (fun _ => none)))))), (a_5, .inl (cA_6, 5, .inr (.inr (.inr (.inr (fun _ => none))))))] := hD
  refine lv_aload_n hx hb dX8_init_28 rfl (lv_at hl 0 rfl) ?_
  refine lv_iconst (v := 5) hx hb dX8_init_29 (by decide) ?_
  refine va_newa (atype := .boolean) (ty := .boolean) (N' := 5) (a0 := (5, .inl (fun _ => 0))) hx hb (hts (.arrayClass .boolean) (by decide +kernel)) rfl hK hP hD hS hA (fun _ => rfl) (by decide) (by decide) (Nat.le_of_ble_eq_true rfl) (Nat.le_of_ble_eq_true rfl) (Nat.le_of_ble_eq_true rfl) dX8_init_30 (fun a_7 cA_8 H hK hP hD hS => ?_)
  refine W.widen (k := 4) (n := 20) (Nat.le_of_ble_eq_true rfl) (Nat.le_of_ble_eq_true rfl) ?_
  have hP : va_P (dC, dI) cls [(h0, .inr (8, [.ref a_1, .ref a_3, .ref a_5, .null, .null, .int 0, .int 0])), (a_1, .inl (cA_2, 5, .inr (.inr (.inr (.inr (fun _ => none)))))), (a_3, .inl (cA_4, 5, .inr (.inr (.inr (.inr (fun _ => none)))))), (a_5, .inl (cA_6, 5, .inr (.inr (.inr (.inr (fun _ => none)))))), (a_7, .inl (cA_8, 5, .inl (fun _ => 0)))] H := hP
  have hD : va_D A [(h0, .inr (8, [.ref a_1, .ref a_3, .ref a_5, .null, .null, .int 0, .int 0])), (a_1, .inl (cA_2, 5, .inr (.inr (.inr (.inr (fun _ => none)))))), (a_3, .inl (cA_4, 5, .inr (.inr (.inr (.inr (fun _ => none)))))), (a_5, .inl (cA_6, 5, .inr (.inr (.inr (.inr (fun _ => none)))))), (a_7, .inl (cA_8, 5, .inl (fun _ => 0)))] := hD
  have hK : va_K (dC, dI) cls [(cA_2, .object RX6), (cA_4, .object RX6), (cA_6, .object RX6), (cA_8, .boolean)] s := hK
  refine va_putF (D := (dC, dI)) (ci := 8) (v := .ref a_7) (ty := (.array .boolean)) (C := RX8) (T := TX8) (N := 7) hx hb hts ik_Trial_RX8 tyX8 tyX8_ok nmX8 hown hK hP hD hS 0 rfl rfl 3 (by decide) (hts (.fieldLink RX8 23 "PutBack$Trial" "made" "[Z") (by decide +kernel)) (fun _ h9 => h9) rfl hin rfl (by decide +kernel) rfl rfl (Nat.le_of_ble_eq_true rfl) dX8_init_32 (fun H locs hP hD hS => ?_)
  have hP : va_P (dC, dI) cls [(h0, .inr (8, [.ref a_1, .ref a_3, .ref a_5, .ref a_7, .null, .int 0, .int 0])), (a_1, .inl (cA_2, 5, .inr (.inr (.inr (.inr (fun _ => none)))))), (a_3, .inl (cA_4, 5, .inr (.inr (.inr (.inr (fun _ => none)))))), (a_5, .inl (cA_6, 5, .inr (.inr (.inr (.inr (fun _ => none)))))), (a_7, .inl (cA_8, 5, .inl (fun _ => 0)))] H := hP
  have hD : va_D A [(h0, .inr (8, [.ref a_1, .ref a_3, .ref a_5, .ref a_7, .null, .int 0, .int 0])), (a_1, .inl (cA_2, 5, .inr (.inr (.inr (.inr (fun _ => none)))))), (a_3, .inl (cA_4, 5, .inr (.inr (.inr (.inr (fun _ => none)))))), (a_5, .inl (cA_6, 5, .inr (.inr (.inr (.inr (fun _ => none)))))), (a_7, .inl (cA_8, 5, .inl (fun _ => 0)))] := hD
  have hP := hP.sub (ws' := [(h0, .inr (8, [.ref a_1, .ref a_3, .ref a_5, .ref a_7, .null, .int 0, .int 0])), (a_1, .inl (cA_2, 5, .inr (.inr (.inr (.inr (fun _ => none)))))), (a_3, .inl (cA_4, 5, .inr (.inr (.inr (.inr (fun _ => none)))))), (a_5, .inl (cA_6, 5, .inr (.inr (.inr (.inr (fun _ => none))))))]) [0, 1, 2, 3] rfl
  have hD := hD.sub (ws' := [(h0, .inr (8, [.ref a_1, .ref a_3, .ref a_5, .ref a_7, .null, .int 0, .int 0])), (a_1, .inl (cA_2, 5, .inr (.inr (.inr (.inr (fun _ => none)))))), (a_3, .inl (cA_4, 5, .inr (.inr (.inr (.inr (fun _ => none)))))), (a_5, .inl (cA_6, 5, .inr (.inr (.inr (.inr (fun _ => none))))))]) [0, 1, 2, 3] (by decide) rfl
  have hK := hK.sub (tys' := [(cA_2, .object RX6), (cA_4, .object RX6), (cA_6, .object RX6)]) [0, 1, 2] rfl
  refine lv_aload_n hx hb dX8_init_35 rfl (lv_at hl 0 rfl) ?_
  refine va_new (ci := 6) (fs := [.null, .int 0]) (C := RX6) (T := TX6) (N := 2) hx hb hts ik_Trial_RX6 tyX6 tyX6_ok hown (hts (.classLink RX8 9 RX6) (by decide +kernel)) (hts (.instantiable RX6 2) (by decide +kernel)) (hts (.initialized RX6) (by decide +kernel)) hK hP hD hS hA rfl (fun j hj => by rcases (show j = 0 ∨ j = 1 by omega) with rfl | rfl <;> rfl) (Nat.le_of_ble_eq_true rfl) (Nat.le_of_ble_eq_true rfl) dX8_init_36 (fun a_9 H hP hD hS => ?_)
  refine W.widen (k := 5) (n := 22) (Nat.le_of_ble_eq_true rfl) (Nat.le_of_ble_eq_true rfl) ?_
  have hP : va_P (dC, dI) cls [(h0, .inr (8, [.ref a_1, .ref a_3, .ref a_5, .ref a_7, .null, .int 0, .int 0])), (a_1, .inl (cA_2, 5, .inr (.inr (.inr (.inr (fun _ => none)))))), (a_3, .inl (cA_4, 5, .inr (.inr (.inr (.inr (fun _ => none)))))), (a_5, .inl (cA_6, 5, .inr (.inr (.inr (.inr (fun _ => none)))))), (a_9, .inr (6, [.null, .int 0]))] H := hP
  have hD : va_D A [(h0, .inr (8, [.ref a_1, .ref a_3, .ref a_5, .ref a_7, .null, .int 0, .int 0])), (a_1, .inl (cA_2, 5, .inr (.inr (.inr (.inr (fun _ => none)))))), (a_3, .inl (cA_4, 5, .inr (.inr (.inr (.inr (fun _ => none)))))), (a_5, .inl (cA_6, 5, .inr (.inr (.inr (.inr (fun _ => none)))))), (a_9, .inr (6, [.null, .int 0]))] := hD
  refine lv_dup hx hb dX8_init_39 rfl ?_
  have hPc := hP.sub (ws' := [(a_9, .inr (6, [.null, .int 0]))]) [4] rfl
  have hDc := hD.sub (ws' := [(a_9, .inr (6, [.null, .int 0]))]) [4] (by decide) rfl
  have hKc := hK.sub (tys' := []) [] rfl
  have hFc := va_free (wc := [(a_9, .inr (6, [.null, .int 0]))]) hD hS hA [4] rfl
  refine va_callv (va_runIN (As := []) (rest := [.ref a_9, .ref h0]) ⟨hx, hb, hml, hown, hts⟩ (k_Text l dC dI H.size a_9) ⟨va_cnB 0 hts gk_Trial_27 rfl rfl rfl n_M_RX8_27_yX6_init_PutBack (hts (.initialized RX6) (by decide +kernel)) (by decide +kernel) ⟨Nat.le_of_ble_eq_true rfl, Nat.le_of_ble_eq_true rfl⟩, rfl, (hts (.instanceMethod yX6_init) (by decide +kernel))⟩ ⟨fun a U g mk q => by obtain ⟨q0, q1, qP, qK, qD⟩ := q; exact ⟨q0, q1, qP, va_K.moved (u := U) (U := U.calling g mk a) (Vm.Alike.refl U.vm) qK, qD⟩, fun U hU hW => ⟨rfl, by rw [hU], by rw [hU]; exact hPc, va_K.moved hW.alike hKc, hDc.weaken (fun _ _ _ _ => trivial)⟩⟩ rfl rfl hl.1 rfl (lv_room (Nat.le_of_ble_eq_true rfl)) dX8_init_40 ⟨Nat.le_of_ble_eq_true rfl, Nat.le_of_ble_eq_true rfl⟩) hS (fun q _ h => hFc q h) hFc (fun u t H1 locs ht hvm hw hB hz1 hk1 hS => ?_)
  obtain ⟨a_12, a_13, hP1, hK1, hD1⟩ := hB
  have hK : va_K (dC, dI) cls [(cA_2, .object RX6), (cA_4, .object RX6), (cA_6, .object RX6), (a_13, .byte)] s := hK.app (va_K.moved hvm.symm hK1)
  rw [ht] at hP1
  try dsimp only at hw
  obtain ⟨hP, hD⟩ := va_join (wr := [(h0, .inr (8, [.ref a_1, .ref a_3, .ref a_5, .ref a_7, .null, .int 0, .int 0])), (a_1, .inl (cA_2, 5, .inr (.inr (.inr (.inr (fun _ => none)))))), (a_3, .inl (cA_4, 5, .inr (.inr (.inr (.inr (fun _ => none)))))), (a_5, .inl (cA_6, 5, .inr (.inr (.inr (.inr (fun _ => none))))))]) (w1 := [(a_9, .inr (6, [.ref a_12, .int 0])), (a_12, .inl (a_13, 60, .inl (fun _ => 0)))]) hP hD [4] [0, 1, 2, 3] rfl rfl (by decide) (by decide) hk1 hFc hP1 hD1
  clear hk1 hz1 hPc hDc hFc hP1 hD1 hK1 hKc
  generalize H1 = H at hP hS ⊢
  have hP : va_P (dC, dI) cls [(h0, .inr (8, [.ref a_1, .ref a_3, .ref a_5, .ref a_7, .null, .int 0, .int 0])), (a_1, .inl (cA_2, 5, .inr (.inr (.inr (.inr (fun _ => none)))))), (a_3, .inl (cA_4, 5, .inr (.inr (.inr (.inr (fun _ => none)))))), (a_5, .inl (cA_6, 5, .inr (.inr (.inr (.inr (fun _ => none)))))), (a_9, .inr (6, [.ref a_12, .int 0])), (a_12, .inl (a_13, 60, .inl (fun _ => 0)))] H := hP
  have hD : va_D A [(h0, .inr (8, [.ref a_1, .ref a_3, .ref a_5, .ref a_7, .null, .int 0, .int 0])), (a_1, .inl (cA_2, 5, .inr (.inr (.inr (.inr (fun _ => none)))))), (a_3, .inl (cA_4, 5, .inr (.inr (.inr (.inr (fun _ => none)))))), (a_5, .inl (cA_6, 5, .inr (.inr (.inr (.inr (fun _ => none)))))), (a_9, .inr (6, [.ref a_12, .int 0])), (a_12, .inl (a_13, 60, .inl (fun _ => 0)))] := hD
  refine W.widen (k := 6) (n := 82) (by omega) (by omega) ?_
  refine va_putF (D := (dC, dI)) (ci := 8) (v := .ref a_9) (ty := (.object "PutBack$Text")) (C := RX8) (T := TX8) (N := 7) hx hb hts ik_Trial_RX8 tyX8 tyX8_ok nmX8 hown hK hP hD hS 0 rfl rfl 4 (by decide) (hts (.fieldLink RX8 28 "PutBack$Trial" "outcome" "LPutBack$Text;") (by decide +kernel)) (fun _ h9 => h9) rfl hin rfl (by decide +kernel) rfl rfl (Nat.le_of_ble_eq_true rfl) dX8_init_43 (fun H locs hP hD hS => ?_)
  have hP : va_P (dC, dI) cls [(h0, .inr (8, [.ref a_1, .ref a_3, .ref a_5, .ref a_7, .ref a_9, .int 0, .int 0])), (a_1, .inl (cA_2, 5, .inr (.inr (.inr (.inr (fun _ => none)))))), (a_3, .inl (cA_4, 5, .inr (.inr (.inr (.inr (fun _ => none)))))), (a_5, .inl (cA_6, 5, .inr (.inr (.inr (.inr (fun _ => none)))))), (a_9, .inr (6, [.ref a_12, .int 0])), (a_12, .inl (a_13, 60, .inl (fun _ => 0)))] H := hP
  have hD : va_D A [(h0, .inr (8, [.ref a_1, .ref a_3, .ref a_5, .ref a_7, .ref a_9, .int 0, .int 0])), (a_1, .inl (cA_2, 5, .inr (.inr (.inr (.inr (fun _ => none)))))), (a_3, .inl (cA_4, 5, .inr (.inr (.inr (.inr (fun _ => none)))))), (a_5, .inl (cA_6, 5, .inr (.inr (.inr (.inr (fun _ => none)))))), (a_9, .inr (6, [.ref a_12, .int 0])), (a_12, .inl (a_13, 60, .inl (fun _ => 0)))] := hD
  have hP := hP.sub (ws' := [(h0, .inr (8, [.ref a_1, .ref a_3, .ref a_5, .ref a_7, .ref a_9, .int 0, .int 0])), (a_1, .inl (cA_2, 5, .inr (.inr (.inr (.inr (fun _ => none)))))), (a_3, .inl (cA_4, 5, .inr (.inr (.inr (.inr (fun _ => none)))))), (a_5, .inl (cA_6, 5, .inr (.inr (.inr (.inr (fun _ => none))))))]) [0, 1, 2, 3] rfl
  have hD := hD.sub (ws' := [(h0, .inr (8, [.ref a_1, .ref a_3, .ref a_5, .ref a_7, .ref a_9, .int 0, .int 0])), (a_1, .inl (cA_2, 5, .inr (.inr (.inr (.inr (fun _ => none)))))), (a_3, .inl (cA_4, 5, .inr (.inr (.inr (.inr (fun _ => none)))))), (a_5, .inl (cA_6, 5, .inr (.inr (.inr (.inr (fun _ => none))))))]) [0, 1, 2, 3] (by decide) rfl
  have hK := hK.sub (tys' := [(cA_2, .object RX6), (cA_4, .object RX6), (cA_6, .object RX6)]) [0, 1, 2] rfl
  refine lv_iconst (v := 0) hx hb dX8_init_46 (by decide) ?_
  refine lv_istore_n (lv' := [(1, .int 0), (0, .ref h0)]) hx hb dX8_init_47 rfl hl (by decide) rfl (fun ls hl => ?_)
  refine lv_iload_n hx hb dX8_init_48 rfl (lv_at hl 0 rfl) ?_
  refine lv_iconst (v := 5) hx hb dX8_init_49 (by decide) ?_
  refine lv_icmp_ge (tgt := 98) hx hb dX8_init_50 (by decide) (fun c_14 => ?_) (fun c_14 => ?_)
  · exact (by revert c_14; decide : False).elim
  refine lv_aload_n hx hb dX8_init_53 rfl (lv_at hl 1 rfl) ?_
  refine va_get (D := (dC, dI)) (ci := 8) (v := .ref a_1) (C := RX8) (T := TX8) (N := 7) hx hb hts ik_Trial_RX8 hown hK hP 0 rfl rfl 0 (by decide) (hts (.fieldLink RX8 11 "PutBack$Trial" "sources" "[LPutBack$Text;") (by decide +kernel)) (fun _ h9 => h9) rfl dX8_init_54 ?_
  refine lv_iload_n hx hb dX8_init_57 rfl (lv_at hl 0 rfl) ?_
  refine va_new (ci := 6) (fs := [.null, .int 0]) (C := RX6) (T := TX6) (N := 2) hx hb hts ik_Trial_RX6 tyX6 tyX6_ok hown (hts (.classLink RX8 9 RX6) (by decide +kernel)) (hts (.instantiable RX6 2) (by decide +kernel)) (hts (.initialized RX6) (by decide +kernel)) hK hP hD hS hA rfl (fun j hj => by rcases (show j = 0 ∨ j = 1 by omega) with rfl | rfl <;> rfl) (Nat.le_of_ble_eq_true rfl) (Nat.le_of_ble_eq_true rfl) dX8_init_58 (fun a_15 H hP hD hS => ?_)
  refine W.widen (k := 7) (n := 84) (Nat.le_of_ble_eq_true rfl) (Nat.le_of_ble_eq_true rfl) ?_
  have hP : va_P (dC, dI) cls [(h0, .inr (8, [.ref a_1, .ref a_3, .ref a_5, .ref a_7, .ref a_9, .int 0, .int 0])), (a_1, .inl (cA_2, 5, .inr (.inr (.inr (.inr (fun _ => none)))))), (a_3, .inl (cA_4, 5, .inr (.inr (.inr (.inr (fun _ => none)))))), (a_5, .inl (cA_6, 5, .inr (.inr (.inr (.inr (fun _ => none)))))), (a_15, .inr (6, [.null, .int 0]))] H := hP
  have hD : va_D A [(h0, .inr (8, [.ref a_1, .ref a_3, .ref a_5, .ref a_7, .ref a_9, .int 0, .int 0])), (a_1, .inl (cA_2, 5, .inr (.inr (.inr (.inr (fun _ => none)))))), (a_3, .inl (cA_4, 5, .inr (.inr (.inr (.inr (fun _ => none)))))), (a_5, .inl (cA_6, 5, .inr (.inr (.inr (.inr (fun _ => none)))))), (a_15, .inr (6, [.null, .int 0]))] := hD
  refine lv_dup hx hb dX8_init_61 rfl ?_
  have hPc := hP.sub (ws' := [(a_15, .inr (6, [.null, .int 0]))]) [4] rfl
  have hDc := hD.sub (ws' := [(a_15, .inr (6, [.null, .int 0]))]) [4] (by decide) rfl
  have hKc := hK.sub (tys' := []) [] rfl
  have hFc := va_free (wc := [(a_15, .inr (6, [.null, .int 0]))]) hD hS hA [4] rfl
  refine va_callv (va_runIN (As := []) (rest := [.ref a_15, .int 0, .ref a_1]) ⟨hx, hb, hml, hown, hts⟩ (k_Text l dC dI H.size a_15) ⟨va_cnB 0 hts gk_Trial_27 rfl rfl rfl n_M_RX8_27_yX6_init_PutBack (hts (.initialized RX6) (by decide +kernel)) (by decide +kernel) ⟨Nat.le_of_ble_eq_true rfl, Nat.le_of_ble_eq_true rfl⟩, rfl, (hts (.instanceMethod yX6_init) (by decide +kernel))⟩ ⟨fun a U g mk q => by obtain ⟨q0, q1, qP, qK, qD⟩ := q; exact ⟨q0, q1, qP, va_K.moved (u := U) (U := U.calling g mk a) (Vm.Alike.refl U.vm) qK, qD⟩, fun U hU hW => ⟨rfl, by rw [hU], by rw [hU]; exact hPc, va_K.moved hW.alike hKc, hDc.weaken (fun _ _ _ _ => trivial)⟩⟩ rfl rfl hl.1 rfl (lv_room (Nat.le_of_ble_eq_true rfl)) dX8_init_62 ⟨Nat.le_of_ble_eq_true rfl, Nat.le_of_ble_eq_true rfl⟩) hS (fun q _ h => hFc q h) hFc (fun u t H1 locs ht hvm hw hB hz1 hk1 hS => ?_)
  obtain ⟨a_18, a_19, hP1, hK1, hD1⟩ := hB
  have hK : va_K (dC, dI) cls [(cA_2, .object RX6), (cA_4, .object RX6), (cA_6, .object RX6), (a_19, .byte)] s := hK.app (va_K.moved hvm.symm hK1)
  rw [ht] at hP1
  try dsimp only at hw
  obtain ⟨hP, hD⟩ := va_join (wr := [(h0, .inr (8, [.ref a_1, .ref a_3, .ref a_5, .ref a_7, .ref a_9, .int 0, .int 0])), (a_1, .inl (cA_2, 5, .inr (.inr (.inr (.inr (fun _ => none)))))), (a_3, .inl (cA_4, 5, .inr (.inr (.inr (.inr (fun _ => none)))))), (a_5, .inl (cA_6, 5, .inr (.inr (.inr (.inr (fun _ => none))))))]) (w1 := [(a_15, .inr (6, [.ref a_18, .int 0])), (a_18, .inl (a_19, 60, .inl (fun _ => 0)))]) hP hD [4] [0, 1, 2, 3] rfl rfl (by decide) (by decide) hk1 hFc hP1 hD1
  clear hk1 hz1 hPc hDc hFc hP1 hD1 hK1 hKc
  generalize H1 = H at hP hS ⊢
  have hP : va_P (dC, dI) cls [(h0, .inr (8, [.ref a_1, .ref a_3, .ref a_5, .ref a_7, .ref a_9, .int 0, .int 0])), (a_1, .inl (cA_2, 5, .inr (.inr (.inr (.inr (fun _ => none)))))), (a_3, .inl (cA_4, 5, .inr (.inr (.inr (.inr (fun _ => none)))))), (a_5, .inl (cA_6, 5, .inr (.inr (.inr (.inr (fun _ => none)))))), (a_15, .inr (6, [.ref a_18, .int 0])), (a_18, .inl (a_19, 60, .inl (fun _ => 0)))] H := hP
  have hD : va_D A [(h0, .inr (8, [.ref a_1, .ref a_3, .ref a_5, .ref a_7, .ref a_9, .int 0, .int 0])), (a_1, .inl (cA_2, 5, .inr (.inr (.inr (.inr (fun _ => none)))))), (a_3, .inl (cA_4, 5, .inr (.inr (.inr (.inr (fun _ => none)))))), (a_5, .inl (cA_6, 5, .inr (.inr (.inr (.inr (fun _ => none)))))), (a_15, .inr (6, [.ref a_18, .int 0])), (a_18, .inl (a_19, 60, .inl (fun _ => 0)))] := hD
  refine W.widen (k := 8) (n := 144) (by omega) (by omega) ?_
  refine va_astq hx hb hK hP hD hS 1 0 4 6 rfl rfl rfl rfl (by unfold vp_in; decide) dX8_init_65 (fun H locs hP hD hS => ?_)
  have hP : va_P (dC, dI) cls [(h0, .inr (8, [.ref a_1, .ref a_3, .ref a_5, .ref a_7, .ref a_9, .int 0, .int 0])), (a_1, .inl (cA_2, 5, .inr (.inr (.inr (.inr (va_up (fun _ => none) (0 : Int32).toNatClampNeg (some a_15))))))), (a_3, .inl (cA_4, 5, .inr (.inr (.inr (.inr (fun _ => none)))))), (a_5, .inl (cA_6, 5, .inr (.inr (.inr (.inr (fun _ => none)))))), (a_15, .inr (6, [.ref a_18, .int 0])), (a_18, .inl (a_19, 60, .inl (fun _ => 0)))] H := hP
  have hD : va_D A [(h0, .inr (8, [.ref a_1, .ref a_3, .ref a_5, .ref a_7, .ref a_9, .int 0, .int 0])), (a_1, .inl (cA_2, 5, .inr (.inr (.inr (.inr (va_up (fun _ => none) (0 : Int32).toNatClampNeg (some a_15))))))), (a_3, .inl (cA_4, 5, .inr (.inr (.inr (.inr (fun _ => none)))))), (a_5, .inl (cA_6, 5, .inr (.inr (.inr (.inr (fun _ => none)))))), (a_15, .inr (6, [.ref a_18, .int 0])), (a_18, .inl (a_19, 60, .inl (fun _ => 0)))] := hD
  generalize (va_up (fun _ => none) (0 : Int32).toNatClampNeg (some a_15)) = g_20 at hP hD
  have hP := hP.sub (ws' := [(h0, .inr (8, [.ref a_1, .ref a_3, .ref a_5, .ref a_7, .ref a_9, .int 0, .int 0])), (a_1, .inl (cA_2, 5, .inr (.inr (.inr (.inr g_20))))), (a_3, .inl (cA_4, 5, .inr (.inr (.inr (.inr (fun _ => none)))))), (a_5, .inl (cA_6, 5, .inr (.inr (.inr (.inr (fun _ => none))))))]) [0, 1, 2, 3] rfl
  have hD := hD.sub (ws' := [(h0, .inr (8, [.ref a_1, .ref a_3, .ref a_5, .ref a_7, .ref a_9, .int 0, .int 0])), (a_1, .inl (cA_2, 5, .inr (.inr (.inr (.inr g_20))))), (a_3, .inl (cA_4, 5, .inr (.inr (.inr (.inr (fun _ => none)))))), (a_5, .inl (cA_6, 5, .inr (.inr (.inr (.inr (fun _ => none))))))]) [0, 1, 2, 3] (by decide) rfl
  have hK := hK.sub (tys' := [(cA_2, .object RX6), (cA_4, .object RX6), (cA_6, .object RX6)]) [0, 1, 2] rfl
  refine lv_aload_n hx hb dX8_init_66 rfl (lv_at hl 1 rfl) ?_
  refine va_get (D := (dC, dI)) (ci := 8) (v := .ref a_3) (C := RX8) (T := TX8) (N := 7) hx hb hts ik_Trial_RX8 hown hK hP 0 rfl rfl 1 (by decide) (hts (.fieldLink RX8 17 "PutBack$Trial" "views" "[LPutBack$Text;") (by decide +kernel)) (fun _ h9 => h9) rfl dX8_init_67 ?_
  refine lv_iload_n hx hb dX8_init_70 rfl (lv_at hl 0 rfl) ?_
  refine va_new (ci := 6) (fs := [.null, .int 0]) (C := RX6) (T := TX6) (N := 2) hx hb hts ik_Trial_RX6 tyX6 tyX6_ok hown (hts (.classLink RX8 9 RX6) (by decide +kernel)) (hts (.instantiable RX6 2) (by decide +kernel)) (hts (.initialized RX6) (by decide +kernel)) hK hP hD hS hA rfl (fun j hj => by rcases (show j = 0 ∨ j = 1 by omega) with rfl | rfl <;> rfl) (Nat.le_of_ble_eq_true rfl) (Nat.le_of_ble_eq_true rfl) dX8_init_71 (fun a_21 H hP hD hS => ?_)
  refine W.widen (k := 9) (n := 146) (Nat.le_of_ble_eq_true rfl) (Nat.le_of_ble_eq_true rfl) ?_
  have hP : va_P (dC, dI) cls [(h0, .inr (8, [.ref a_1, .ref a_3, .ref a_5, .ref a_7, .ref a_9, .int 0, .int 0])), (a_1, .inl (cA_2, 5, .inr (.inr (.inr (.inr g_20))))), (a_3, .inl (cA_4, 5, .inr (.inr (.inr (.inr (fun _ => none)))))), (a_5, .inl (cA_6, 5, .inr (.inr (.inr (.inr (fun _ => none)))))), (a_21, .inr (6, [.null, .int 0]))] H := hP
  have hD : va_D A [(h0, .inr (8, [.ref a_1, .ref a_3, .ref a_5, .ref a_7, .ref a_9, .int 0, .int 0])), (a_1, .inl (cA_2, 5, .inr (.inr (.inr (.inr g_20))))), (a_3, .inl (cA_4, 5, .inr (.inr (.inr (.inr (fun _ => none)))))), (a_5, .inl (cA_6, 5, .inr (.inr (.inr (.inr (fun _ => none)))))), (a_21, .inr (6, [.null, .int 0]))] := hD
  refine lv_dup hx hb dX8_init_74 rfl ?_
  have hPc := hP.sub (ws' := [(a_21, .inr (6, [.null, .int 0]))]) [4] rfl
  have hDc := hD.sub (ws' := [(a_21, .inr (6, [.null, .int 0]))]) [4] (by decide) rfl
  have hKc := hK.sub (tys' := []) [] rfl
  have hFc := va_free (wc := [(a_21, .inr (6, [.null, .int 0]))]) hD hS hA [4] rfl
  refine va_callv (va_runIN (As := []) (rest := [.ref a_21, .int 0, .ref a_3]) ⟨hx, hb, hml, hown, hts⟩ (k_Text l dC dI H.size a_21) ⟨va_cnB 0 hts gk_Trial_27 rfl rfl rfl n_M_RX8_27_yX6_init_PutBack (hts (.initialized RX6) (by decide +kernel)) (by decide +kernel) ⟨Nat.le_of_ble_eq_true rfl, Nat.le_of_ble_eq_true rfl⟩, rfl, (hts (.instanceMethod yX6_init) (by decide +kernel))⟩ ⟨fun a U g mk q => by obtain ⟨q0, q1, qP, qK, qD⟩ := q; exact ⟨q0, q1, qP, va_K.moved (u := U) (U := U.calling g mk a) (Vm.Alike.refl U.vm) qK, qD⟩, fun U hU hW => ⟨rfl, by rw [hU], by rw [hU]; exact hPc, va_K.moved hW.alike hKc, hDc.weaken (fun _ _ _ _ => trivial)⟩⟩ rfl rfl hl.1 rfl (lv_room (Nat.le_of_ble_eq_true rfl)) dX8_init_75 ⟨Nat.le_of_ble_eq_true rfl, Nat.le_of_ble_eq_true rfl⟩) hS (fun q _ h => hFc q h) hFc (fun u t H1 locs ht hvm hw hB hz1 hk1 hS => ?_)
  obtain ⟨a_24, a_25, hP1, hK1, hD1⟩ := hB
  have hK : va_K (dC, dI) cls [(cA_2, .object RX6), (cA_4, .object RX6), (cA_6, .object RX6), (a_25, .byte)] s := hK.app (va_K.moved hvm.symm hK1)
  rw [ht] at hP1
  try dsimp only at hw
  obtain ⟨hP, hD⟩ := va_join (wr := [(h0, .inr (8, [.ref a_1, .ref a_3, .ref a_5, .ref a_7, .ref a_9, .int 0, .int 0])), (a_1, .inl (cA_2, 5, .inr (.inr (.inr (.inr g_20))))), (a_3, .inl (cA_4, 5, .inr (.inr (.inr (.inr (fun _ => none)))))), (a_5, .inl (cA_6, 5, .inr (.inr (.inr (.inr (fun _ => none))))))]) (w1 := [(a_21, .inr (6, [.ref a_24, .int 0])), (a_24, .inl (a_25, 60, .inl (fun _ => 0)))]) hP hD [4] [0, 1, 2, 3] rfl rfl (by decide) (by decide) hk1 hFc hP1 hD1
  clear hk1 hz1 hPc hDc hFc hP1 hD1 hK1 hKc
  generalize H1 = H at hP hS ⊢
  have hP : va_P (dC, dI) cls [(h0, .inr (8, [.ref a_1, .ref a_3, .ref a_5, .ref a_7, .ref a_9, .int 0, .int 0])), (a_1, .inl (cA_2, 5, .inr (.inr (.inr (.inr g_20))))), (a_3, .inl (cA_4, 5, .inr (.inr (.inr (.inr (fun _ => none)))))), (a_5, .inl (cA_6, 5, .inr (.inr (.inr (.inr (fun _ => none)))))), (a_21, .inr (6, [.ref a_24, .int 0])), (a_24, .inl (a_25, 60, .inl (fun _ => 0)))] H := hP
  have hD : va_D A [(h0, .inr (8, [.ref a_1, .ref a_3, .ref a_5, .ref a_7, .ref a_9, .int 0, .int 0])), (a_1, .inl (cA_2, 5, .inr (.inr (.inr (.inr g_20))))), (a_3, .inl (cA_4, 5, .inr (.inr (.inr (.inr (fun _ => none)))))), (a_5, .inl (cA_6, 5, .inr (.inr (.inr (.inr (fun _ => none)))))), (a_21, .inr (6, [.ref a_24, .int 0])), (a_24, .inl (a_25, 60, .inl (fun _ => 0)))] := hD
  refine W.widen (k := 10) (n := 206) (by omega) (by omega) ?_
  refine va_astq hx hb hK hP hD hS 2 1 4 6 rfl rfl rfl rfl (by unfold vp_in; decide) dX8_init_78 (fun H locs hP hD hS => ?_)
  have hP : va_P (dC, dI) cls [(h0, .inr (8, [.ref a_1, .ref a_3, .ref a_5, .ref a_7, .ref a_9, .int 0, .int 0])), (a_1, .inl (cA_2, 5, .inr (.inr (.inr (.inr g_20))))), (a_3, .inl (cA_4, 5, .inr (.inr (.inr (.inr (va_up (fun _ => none) (0 : Int32).toNatClampNeg (some a_21))))))), (a_5, .inl (cA_6, 5, .inr (.inr (.inr (.inr (fun _ => none)))))), (a_21, .inr (6, [.ref a_24, .int 0])), (a_24, .inl (a_25, 60, .inl (fun _ => 0)))] H := hP
  have hD : va_D A [(h0, .inr (8, [.ref a_1, .ref a_3, .ref a_5, .ref a_7, .ref a_9, .int 0, .int 0])), (a_1, .inl (cA_2, 5, .inr (.inr (.inr (.inr g_20))))), (a_3, .inl (cA_4, 5, .inr (.inr (.inr (.inr (va_up (fun _ => none) (0 : Int32).toNatClampNeg (some a_21))))))), (a_5, .inl (cA_6, 5, .inr (.inr (.inr (.inr (fun _ => none)))))), (a_21, .inr (6, [.ref a_24, .int 0])), (a_24, .inl (a_25, 60, .inl (fun _ => 0)))] := hD
  generalize (va_up (fun _ => none) (0 : Int32).toNatClampNeg (some a_21)) = g_26 at hP hD
  have hP := hP.sub (ws' := [(h0, .inr (8, [.ref a_1, .ref a_3, .ref a_5, .ref a_7, .ref a_9, .int 0, .int 0])), (a_1, .inl (cA_2, 5, .inr (.inr (.inr (.inr g_20))))), (a_3, .inl (cA_4, 5, .inr (.inr (.inr (.inr g_26))))), (a_5, .inl (cA_6, 5, .inr (.inr (.inr (.inr (fun _ => none))))))]) [0, 1, 2, 3] rfl
  have hD := hD.sub (ws' := [(h0, .inr (8, [.ref a_1, .ref a_3, .ref a_5, .ref a_7, .ref a_9, .int 0, .int 0])), (a_1, .inl (cA_2, 5, .inr (.inr (.inr (.inr g_20))))), (a_3, .inl (cA_4, 5, .inr (.inr (.inr (.inr g_26))))), (a_5, .inl (cA_6, 5, .inr (.inr (.inr (.inr (fun _ => none))))))]) [0, 1, 2, 3] (by decide) rfl
  have hK := hK.sub (tys' := [(cA_2, .object RX6), (cA_4, .object RX6), (cA_6, .object RX6)]) [0, 1, 2] rfl
  refine lv_aload_n hx hb dX8_init_79 rfl (lv_at hl 1 rfl) ?_
  refine va_get (D := (dC, dI)) (ci := 8) (v := .ref a_5) (C := RX8) (T := TX8) (N := 7) hx hb hts ik_Trial_RX8 hown hK hP 0 rfl rfl 2 (by decide) (hts (.fieldLink RX8 20 "PutBack$Trial" "backs" "[LPutBack$Text;") (by decide +kernel)) (fun _ h9 => h9) rfl dX8_init_80 ?_
  refine lv_iload_n hx hb dX8_init_83 rfl (lv_at hl 0 rfl) ?_
  refine va_new (ci := 6) (fs := [.null, .int 0]) (C := RX6) (T := TX6) (N := 2) hx hb hts ik_Trial_RX6 tyX6 tyX6_ok hown (hts (.classLink RX8 9 RX6) (by decide +kernel)) (hts (.instantiable RX6 2) (by decide +kernel)) (hts (.initialized RX6) (by decide +kernel)) hK hP hD hS hA rfl (fun j hj => by rcases (show j = 0 ∨ j = 1 by omega) with rfl | rfl <;> rfl) (Nat.le_of_ble_eq_true rfl) (Nat.le_of_ble_eq_true rfl) dX8_init_84 (fun a_27 H hP hD hS => ?_)
  refine W.widen (k := 11) (n := 208) (Nat.le_of_ble_eq_true rfl) (Nat.le_of_ble_eq_true rfl) ?_
  have hP : va_P (dC, dI) cls [(h0, .inr (8, [.ref a_1, .ref a_3, .ref a_5, .ref a_7, .ref a_9, .int 0, .int 0])), (a_1, .inl (cA_2, 5, .inr (.inr (.inr (.inr g_20))))), (a_3, .inl (cA_4, 5, .inr (.inr (.inr (.inr g_26))))), (a_5, .inl (cA_6, 5, .inr (.inr (.inr (.inr (fun _ => none)))))), (a_27, .inr (6, [.null, .int 0]))] H := hP
  have hD : va_D A [(h0, .inr (8, [.ref a_1, .ref a_3, .ref a_5, .ref a_7, .ref a_9, .int 0, .int 0])), (a_1, .inl (cA_2, 5, .inr (.inr (.inr (.inr g_20))))), (a_3, .inl (cA_4, 5, .inr (.inr (.inr (.inr g_26))))), (a_5, .inl (cA_6, 5, .inr (.inr (.inr (.inr (fun _ => none)))))), (a_27, .inr (6, [.null, .int 0]))] := hD
  refine lv_dup hx hb dX8_init_87 rfl ?_
  have hPc := hP.sub (ws' := [(a_27, .inr (6, [.null, .int 0]))]) [4] rfl
  have hDc := hD.sub (ws' := [(a_27, .inr (6, [.null, .int 0]))]) [4] (by decide) rfl
  have hKc := hK.sub (tys' := []) [] rfl
  have hFc := va_free (wc := [(a_27, .inr (6, [.null, .int 0]))]) hD hS hA [4] rfl
  refine va_callv (va_runIN (As := []) (rest := [.ref a_27, .int 0, .ref a_5]) ⟨hx, hb, hml, hown, hts⟩ (k_Text l dC dI H.size a_27) ⟨va_cnB 0 hts gk_Trial_27 rfl rfl rfl n_M_RX8_27_yX6_init_PutBack (hts (.initialized RX6) (by decide +kernel)) (by decide +kernel) ⟨Nat.le_of_ble_eq_true rfl, Nat.le_of_ble_eq_true rfl⟩, rfl, (hts (.instanceMethod yX6_init) (by decide +kernel))⟩ ⟨fun a U g mk q => by obtain ⟨q0, q1, qP, qK, qD⟩ := q; exact ⟨q0, q1, qP, va_K.moved (u := U) (U := U.calling g mk a) (Vm.Alike.refl U.vm) qK, qD⟩, fun U hU hW => ⟨rfl, by rw [hU], by rw [hU]; exact hPc, va_K.moved hW.alike hKc, hDc.weaken (fun _ _ _ _ => trivial)⟩⟩ rfl rfl hl.1 rfl (lv_room (Nat.le_of_ble_eq_true rfl)) dX8_init_88 ⟨Nat.le_of_ble_eq_true rfl, Nat.le_of_ble_eq_true rfl⟩) hS (fun q _ h => hFc q h) hFc (fun u t H1 locs ht hvm hw hB hz1 hk1 hS => ?_)
  obtain ⟨a_30, a_31, hP1, hK1, hD1⟩ := hB
  have hK : va_K (dC, dI) cls [(cA_2, .object RX6), (cA_4, .object RX6), (cA_6, .object RX6), (a_31, .byte)] s := hK.app (va_K.moved hvm.symm hK1)
  rw [ht] at hP1
  try dsimp only at hw
  obtain ⟨hP, hD⟩ := va_join (wr := [(h0, .inr (8, [.ref a_1, .ref a_3, .ref a_5, .ref a_7, .ref a_9, .int 0, .int 0])), (a_1, .inl (cA_2, 5, .inr (.inr (.inr (.inr g_20))))), (a_3, .inl (cA_4, 5, .inr (.inr (.inr (.inr g_26))))), (a_5, .inl (cA_6, 5, .inr (.inr (.inr (.inr (fun _ => none))))))]) (w1 := [(a_27, .inr (6, [.ref a_30, .int 0])), (a_30, .inl (a_31, 60, .inl (fun _ => 0)))]) hP hD [4] [0, 1, 2, 3] rfl rfl (by decide) (by decide) hk1 hFc hP1 hD1
  clear hk1 hz1 hPc hDc hFc hP1 hD1 hK1 hKc
  generalize H1 = H at hP hS ⊢
  have hP : va_P (dC, dI) cls [(h0, .inr (8, [.ref a_1, .ref a_3, .ref a_5, .ref a_7, .ref a_9, .int 0, .int 0])), (a_1, .inl (cA_2, 5, .inr (.inr (.inr (.inr g_20))))), (a_3, .inl (cA_4, 5, .inr (.inr (.inr (.inr g_26))))), (a_5, .inl (cA_6, 5, .inr (.inr (.inr (.inr (fun _ => none)))))), (a_27, .inr (6, [.ref a_30, .int 0])), (a_30, .inl (a_31, 60, .inl (fun _ => 0)))] H := hP
  have hD : va_D A [(h0, .inr (8, [.ref a_1, .ref a_3, .ref a_5, .ref a_7, .ref a_9, .int 0, .int 0])), (a_1, .inl (cA_2, 5, .inr (.inr (.inr (.inr g_20))))), (a_3, .inl (cA_4, 5, .inr (.inr (.inr (.inr g_26))))), (a_5, .inl (cA_6, 5, .inr (.inr (.inr (.inr (fun _ => none)))))), (a_27, .inr (6, [.ref a_30, .int 0])), (a_30, .inl (a_31, 60, .inl (fun _ => 0)))] := hD
  refine W.widen (k := 12) (n := 268) (by omega) (by omega) ?_
  refine va_astq hx hb hK hP hD hS 3 2 4 6 rfl rfl rfl rfl (by unfold vp_in; decide) dX8_init_91 (fun H locs hP hD hS => ?_)
  have hP : va_P (dC, dI) cls [(h0, .inr (8, [.ref a_1, .ref a_3, .ref a_5, .ref a_7, .ref a_9, .int 0, .int 0])), (a_1, .inl (cA_2, 5, .inr (.inr (.inr (.inr g_20))))), (a_3, .inl (cA_4, 5, .inr (.inr (.inr (.inr g_26))))), (a_5, .inl (cA_6, 5, .inr (.inr (.inr (.inr (va_up (fun _ => none) (0 : Int32).toNatClampNeg (some a_27))))))), (a_27, .inr (6, [.ref a_30, .int 0])), (a_30, .inl (a_31, 60, .inl (fun _ => 0)))] H := hP
  have hD : va_D A [(h0, .inr (8, [.ref a_1, .ref a_3, .ref a_5, .ref a_7, .ref a_9, .int 0, .int 0])), (a_1, .inl (cA_2, 5, .inr (.inr (.inr (.inr g_20))))), (a_3, .inl (cA_4, 5, .inr (.inr (.inr (.inr g_26))))), (a_5, .inl (cA_6, 5, .inr (.inr (.inr (.inr (va_up (fun _ => none) (0 : Int32).toNatClampNeg (some a_27))))))), (a_27, .inr (6, [.ref a_30, .int 0])), (a_30, .inl (a_31, 60, .inl (fun _ => 0)))] := hD
  generalize (va_up (fun _ => none) (0 : Int32).toNatClampNeg (some a_27)) = g_32 at hP hD
  have hP := hP.sub (ws' := [(h0, .inr (8, [.ref a_1, .ref a_3, .ref a_5, .ref a_7, .ref a_9, .int 0, .int 0])), (a_1, .inl (cA_2, 5, .inr (.inr (.inr (.inr g_20))))), (a_3, .inl (cA_4, 5, .inr (.inr (.inr (.inr g_26))))), (a_5, .inl (cA_6, 5, .inr (.inr (.inr (.inr g_32)))))]) [0, 1, 2, 3] rfl
  have hD := hD.sub (ws' := [(h0, .inr (8, [.ref a_1, .ref a_3, .ref a_5, .ref a_7, .ref a_9, .int 0, .int 0])), (a_1, .inl (cA_2, 5, .inr (.inr (.inr (.inr g_20))))), (a_3, .inl (cA_4, 5, .inr (.inr (.inr (.inr g_26))))), (a_5, .inl (cA_6, 5, .inr (.inr (.inr (.inr g_32)))))]) [0, 1, 2, 3] (by decide) rfl
  have hK := hK.sub (tys' := [(cA_2, .object RX6), (cA_4, .object RX6), (cA_6, .object RX6)]) [0, 1, 2] rfl
  refine lv_iinc (v := 1) (lv' := [(1, .int 1), (0, .ref h0)]) hx hb dX8_init_92 hl (k := 0) rfl (by decide) (by decide) rfl (fun ls hl => ?_)
  refine lv_goto (tgt := 48) hx hb dX8_init_95 (by decide) ?_
  refine lv_iload_n hx hb dX8_init_48 rfl (lv_at hl 0 rfl) ?_
  refine lv_iconst (v := 5) hx hb dX8_init_49 (by decide) ?_
  refine lv_icmp_ge (tgt := 98) hx hb dX8_init_50 (by decide) (fun c_33 => ?_) (fun c_33 => ?_)
  · exact (by revert c_33; decide : False).elim
  refine lv_aload_n hx hb dX8_init_53 rfl (lv_at hl 1 rfl) ?_
  refine va_get (D := (dC, dI)) (ci := 8) (v := .ref a_1) (C := RX8) (T := TX8) (N := 7) hx hb hts ik_Trial_RX8 hown hK hP 0 rfl rfl 0 (by decide) (hts (.fieldLink RX8 11 "PutBack$Trial" "sources" "[LPutBack$Text;") (by decide +kernel)) (fun _ h9 => h9) rfl dX8_init_54 ?_
  refine lv_iload_n hx hb dX8_init_57 rfl (lv_at hl 0 rfl) ?_
  refine va_new (ci := 6) (fs := [.null, .int 0]) (C := RX6) (T := TX6) (N := 2) hx hb hts ik_Trial_RX6 tyX6 tyX6_ok hown (hts (.classLink RX8 9 RX6) (by decide +kernel)) (hts (.instantiable RX6 2) (by decide +kernel)) (hts (.initialized RX6) (by decide +kernel)) hK hP hD hS hA rfl (fun j hj => by rcases (show j = 0 ∨ j = 1 by omega) with rfl | rfl <;> rfl) (Nat.le_of_ble_eq_true rfl) (Nat.le_of_ble_eq_true rfl) dX8_init_58 (fun a_34 H hP hD hS => ?_)
  refine W.widen (k := 13) (n := 270) (Nat.le_of_ble_eq_true rfl) (Nat.le_of_ble_eq_true rfl) ?_
  have hP : va_P (dC, dI) cls [(h0, .inr (8, [.ref a_1, .ref a_3, .ref a_5, .ref a_7, .ref a_9, .int 0, .int 0])), (a_1, .inl (cA_2, 5, .inr (.inr (.inr (.inr g_20))))), (a_3, .inl (cA_4, 5, .inr (.inr (.inr (.inr g_26))))), (a_5, .inl (cA_6, 5, .inr (.inr (.inr (.inr g_32))))), (a_34, .inr (6, [.null, .int 0]))] H := hP
  have hD : va_D A [(h0, .inr (8, [.ref a_1, .ref a_3, .ref a_5, .ref a_7, .ref a_9, .int 0, .int 0])), (a_1, .inl (cA_2, 5, .inr (.inr (.inr (.inr g_20))))), (a_3, .inl (cA_4, 5, .inr (.inr (.inr (.inr g_26))))), (a_5, .inl (cA_6, 5, .inr (.inr (.inr (.inr g_32))))), (a_34, .inr (6, [.null, .int 0]))] := hD
  refine lv_dup hx hb dX8_init_61 rfl ?_
  have hPc := hP.sub (ws' := [(a_34, .inr (6, [.null, .int 0]))]) [4] rfl
  have hDc := hD.sub (ws' := [(a_34, .inr (6, [.null, .int 0]))]) [4] (by decide) rfl
  have hKc := hK.sub (tys' := []) [] rfl
  have hFc := va_free (wc := [(a_34, .inr (6, [.null, .int 0]))]) hD hS hA [4] rfl
  refine va_callv (va_runIN (As := []) (rest := [.ref a_34, .int 1, .ref a_1]) ⟨hx, hb, hml, hown, hts⟩ (k_Text l dC dI H.size a_34) ⟨va_cnB 0 hts gk_Trial_27 rfl rfl rfl n_M_RX8_27_yX6_init_PutBack (hts (.initialized RX6) (by decide +kernel)) (by decide +kernel) ⟨Nat.le_of_ble_eq_true rfl, Nat.le_of_ble_eq_true rfl⟩, rfl, (hts (.instanceMethod yX6_init) (by decide +kernel))⟩ ⟨fun a U g mk q => by obtain ⟨q0, q1, qP, qK, qD⟩ := q; exact ⟨q0, q1, qP, va_K.moved (u := U) (U := U.calling g mk a) (Vm.Alike.refl U.vm) qK, qD⟩, fun U hU hW => ⟨rfl, by rw [hU], by rw [hU]; exact hPc, va_K.moved hW.alike hKc, hDc.weaken (fun _ _ _ _ => trivial)⟩⟩ rfl rfl hl.1 rfl (lv_room (Nat.le_of_ble_eq_true rfl)) dX8_init_62 ⟨Nat.le_of_ble_eq_true rfl, Nat.le_of_ble_eq_true rfl⟩) hS (fun q _ h => hFc q h) hFc (fun u t H1 locs ht hvm hw hB hz1 hk1 hS => ?_)
  obtain ⟨a_37, a_38, hP1, hK1, hD1⟩ := hB
  have hK : va_K (dC, dI) cls [(cA_2, .object RX6), (cA_4, .object RX6), (cA_6, .object RX6), (a_38, .byte)] s := hK.app (va_K.moved hvm.symm hK1)
  rw [ht] at hP1
  try dsimp only at hw
  obtain ⟨hP, hD⟩ := va_join (wr := [(h0, .inr (8, [.ref a_1, .ref a_3, .ref a_5, .ref a_7, .ref a_9, .int 0, .int 0])), (a_1, .inl (cA_2, 5, .inr (.inr (.inr (.inr g_20))))), (a_3, .inl (cA_4, 5, .inr (.inr (.inr (.inr g_26))))), (a_5, .inl (cA_6, 5, .inr (.inr (.inr (.inr g_32)))))]) (w1 := [(a_34, .inr (6, [.ref a_37, .int 0])), (a_37, .inl (a_38, 60, .inl (fun _ => 0)))]) hP hD [4] [0, 1, 2, 3] rfl rfl (by decide) (by decide) hk1 hFc hP1 hD1
  clear hk1 hz1 hPc hDc hFc hP1 hD1 hK1 hKc
  generalize H1 = H at hP hS ⊢
  have hP : va_P (dC, dI) cls [(h0, .inr (8, [.ref a_1, .ref a_3, .ref a_5, .ref a_7, .ref a_9, .int 0, .int 0])), (a_1, .inl (cA_2, 5, .inr (.inr (.inr (.inr g_20))))), (a_3, .inl (cA_4, 5, .inr (.inr (.inr (.inr g_26))))), (a_5, .inl (cA_6, 5, .inr (.inr (.inr (.inr g_32))))), (a_34, .inr (6, [.ref a_37, .int 0])), (a_37, .inl (a_38, 60, .inl (fun _ => 0)))] H := hP
  have hD : va_D A [(h0, .inr (8, [.ref a_1, .ref a_3, .ref a_5, .ref a_7, .ref a_9, .int 0, .int 0])), (a_1, .inl (cA_2, 5, .inr (.inr (.inr (.inr g_20))))), (a_3, .inl (cA_4, 5, .inr (.inr (.inr (.inr g_26))))), (a_5, .inl (cA_6, 5, .inr (.inr (.inr (.inr g_32))))), (a_34, .inr (6, [.ref a_37, .int 0])), (a_37, .inl (a_38, 60, .inl (fun _ => 0)))] := hD
  refine W.widen (k := 14) (n := 330) (by omega) (by omega) ?_
  refine va_astq hx hb hK hP hD hS 1 0 4 6 rfl rfl rfl rfl (by unfold vp_in; decide) dX8_init_65 (fun H locs hP hD hS => ?_)
  have hP : va_P (dC, dI) cls [(h0, .inr (8, [.ref a_1, .ref a_3, .ref a_5, .ref a_7, .ref a_9, .int 0, .int 0])), (a_1, .inl (cA_2, 5, .inr (.inr (.inr (.inr (va_up g_20 (1 : Int32).toNatClampNeg (some a_34))))))), (a_3, .inl (cA_4, 5, .inr (.inr (.inr (.inr g_26))))), (a_5, .inl (cA_6, 5, .inr (.inr (.inr (.inr g_32))))), (a_34, .inr (6, [.ref a_37, .int 0])), (a_37, .inl (a_38, 60, .inl (fun _ => 0)))] H := hP
  have hD : va_D A [(h0, .inr (8, [.ref a_1, .ref a_3, .ref a_5, .ref a_7, .ref a_9, .int 0, .int 0])), (a_1, .inl (cA_2, 5, .inr (.inr (.inr (.inr (va_up g_20 (1 : Int32).toNatClampNeg (some a_34))))))), (a_3, .inl (cA_4, 5, .inr (.inr (.inr (.inr g_26))))), (a_5, .inl (cA_6, 5, .inr (.inr (.inr (.inr g_32))))), (a_34, .inr (6, [.ref a_37, .int 0])), (a_37, .inl (a_38, 60, .inl (fun _ => 0)))] := hD
  generalize (va_up g_20 (1 : Int32).toNatClampNeg (some a_34)) = g_39 at hP hD
  have hP := hP.sub (ws' := [(h0, .inr (8, [.ref a_1, .ref a_3, .ref a_5, .ref a_7, .ref a_9, .int 0, .int 0])), (a_1, .inl (cA_2, 5, .inr (.inr (.inr (.inr g_39))))), (a_3, .inl (cA_4, 5, .inr (.inr (.inr (.inr g_26))))), (a_5, .inl (cA_6, 5, .inr (.inr (.inr (.inr g_32)))))]) [0, 1, 2, 3] rfl
  have hD := hD.sub (ws' := [(h0, .inr (8, [.ref a_1, .ref a_3, .ref a_5, .ref a_7, .ref a_9, .int 0, .int 0])), (a_1, .inl (cA_2, 5, .inr (.inr (.inr (.inr g_39))))), (a_3, .inl (cA_4, 5, .inr (.inr (.inr (.inr g_26))))), (a_5, .inl (cA_6, 5, .inr (.inr (.inr (.inr g_32)))))]) [0, 1, 2, 3] (by decide) rfl
  have hK := hK.sub (tys' := [(cA_2, .object RX6), (cA_4, .object RX6), (cA_6, .object RX6)]) [0, 1, 2] rfl
  refine lv_aload_n hx hb dX8_init_66 rfl (lv_at hl 1 rfl) ?_
  refine va_get (D := (dC, dI)) (ci := 8) (v := .ref a_3) (C := RX8) (T := TX8) (N := 7) hx hb hts ik_Trial_RX8 hown hK hP 0 rfl rfl 1 (by decide) (hts (.fieldLink RX8 17 "PutBack$Trial" "views" "[LPutBack$Text;") (by decide +kernel)) (fun _ h9 => h9) rfl dX8_init_67 ?_
  refine lv_iload_n hx hb dX8_init_70 rfl (lv_at hl 0 rfl) ?_
  refine va_new (ci := 6) (fs := [.null, .int 0]) (C := RX6) (T := TX6) (N := 2) hx hb hts ik_Trial_RX6 tyX6 tyX6_ok hown (hts (.classLink RX8 9 RX6) (by decide +kernel)) (hts (.instantiable RX6 2) (by decide +kernel)) (hts (.initialized RX6) (by decide +kernel)) hK hP hD hS hA rfl (fun j hj => by rcases (show j = 0 ∨ j = 1 by omega) with rfl | rfl <;> rfl) (Nat.le_of_ble_eq_true rfl) (Nat.le_of_ble_eq_true rfl) dX8_init_71 (fun a_40 H hP hD hS => ?_)
  refine W.widen (k := 15) (n := 332) (Nat.le_of_ble_eq_true rfl) (Nat.le_of_ble_eq_true rfl) ?_
  have hP : va_P (dC, dI) cls [(h0, .inr (8, [.ref a_1, .ref a_3, .ref a_5, .ref a_7, .ref a_9, .int 0, .int 0])), (a_1, .inl (cA_2, 5, .inr (.inr (.inr (.inr g_39))))), (a_3, .inl (cA_4, 5, .inr (.inr (.inr (.inr g_26))))), (a_5, .inl (cA_6, 5, .inr (.inr (.inr (.inr g_32))))), (a_40, .inr (6, [.null, .int 0]))] H := hP
  have hD : va_D A [(h0, .inr (8, [.ref a_1, .ref a_3, .ref a_5, .ref a_7, .ref a_9, .int 0, .int 0])), (a_1, .inl (cA_2, 5, .inr (.inr (.inr (.inr g_39))))), (a_3, .inl (cA_4, 5, .inr (.inr (.inr (.inr g_26))))), (a_5, .inl (cA_6, 5, .inr (.inr (.inr (.inr g_32))))), (a_40, .inr (6, [.null, .int 0]))] := hD
  refine lv_dup hx hb dX8_init_74 rfl ?_
  have hPc := hP.sub (ws' := [(a_40, .inr (6, [.null, .int 0]))]) [4] rfl
  have hDc := hD.sub (ws' := [(a_40, .inr (6, [.null, .int 0]))]) [4] (by decide) rfl
  have hKc := hK.sub (tys' := []) [] rfl
  have hFc := va_free (wc := [(a_40, .inr (6, [.null, .int 0]))]) hD hS hA [4] rfl
  refine va_callv (va_runIN (As := []) (rest := [.ref a_40, .int 1, .ref a_3]) ⟨hx, hb, hml, hown, hts⟩ (k_Text l dC dI H.size a_40) ⟨va_cnB 0 hts gk_Trial_27 rfl rfl rfl n_M_RX8_27_yX6_init_PutBack (hts (.initialized RX6) (by decide +kernel)) (by decide +kernel) ⟨Nat.le_of_ble_eq_true rfl, Nat.le_of_ble_eq_true rfl⟩, rfl, (hts (.instanceMethod yX6_init) (by decide +kernel))⟩ ⟨fun a U g mk q => by obtain ⟨q0, q1, qP, qK, qD⟩ := q; exact ⟨q0, q1, qP, va_K.moved (u := U) (U := U.calling g mk a) (Vm.Alike.refl U.vm) qK, qD⟩, fun U hU hW => ⟨rfl, by rw [hU], by rw [hU]; exact hPc, va_K.moved hW.alike hKc, hDc.weaken (fun _ _ _ _ => trivial)⟩⟩ rfl rfl hl.1 rfl (lv_room (Nat.le_of_ble_eq_true rfl)) dX8_init_75 ⟨Nat.le_of_ble_eq_true rfl, Nat.le_of_ble_eq_true rfl⟩) hS (fun q _ h => hFc q h) hFc (fun u t H1 locs ht hvm hw hB hz1 hk1 hS => ?_)
  obtain ⟨a_43, a_44, hP1, hK1, hD1⟩ := hB
  have hK : va_K (dC, dI) cls [(cA_2, .object RX6), (cA_4, .object RX6), (cA_6, .object RX6), (a_44, .byte)] s := hK.app (va_K.moved hvm.symm hK1)
  rw [ht] at hP1
  try dsimp only at hw
  obtain ⟨hP, hD⟩ := va_join (wr := [(h0, .inr (8, [.ref a_1, .ref a_3, .ref a_5, .ref a_7, .ref a_9, .int 0, .int 0])), (a_1, .inl (cA_2, 5, .inr (.inr (.inr (.inr g_39))))), (a_3, .inl (cA_4, 5, .inr (.inr (.inr (.inr g_26))))), (a_5, .inl (cA_6, 5, .inr (.inr (.inr (.inr g_32)))))]) (w1 := [(a_40, .inr (6, [.ref a_43, .int 0])), (a_43, .inl (a_44, 60, .inl (fun _ => 0)))]) hP hD [4] [0, 1, 2, 3] rfl rfl (by decide) (by decide) hk1 hFc hP1 hD1
  clear hk1 hz1 hPc hDc hFc hP1 hD1 hK1 hKc
  generalize H1 = H at hP hS ⊢
  have hP : va_P (dC, dI) cls [(h0, .inr (8, [.ref a_1, .ref a_3, .ref a_5, .ref a_7, .ref a_9, .int 0, .int 0])), (a_1, .inl (cA_2, 5, .inr (.inr (.inr (.inr g_39))))), (a_3, .inl (cA_4, 5, .inr (.inr (.inr (.inr g_26))))), (a_5, .inl (cA_6, 5, .inr (.inr (.inr (.inr g_32))))), (a_40, .inr (6, [.ref a_43, .int 0])), (a_43, .inl (a_44, 60, .inl (fun _ => 0)))] H := hP
  have hD : va_D A [(h0, .inr (8, [.ref a_1, .ref a_3, .ref a_5, .ref a_7, .ref a_9, .int 0, .int 0])), (a_1, .inl (cA_2, 5, .inr (.inr (.inr (.inr g_39))))), (a_3, .inl (cA_4, 5, .inr (.inr (.inr (.inr g_26))))), (a_5, .inl (cA_6, 5, .inr (.inr (.inr (.inr g_32))))), (a_40, .inr (6, [.ref a_43, .int 0])), (a_43, .inl (a_44, 60, .inl (fun _ => 0)))] := hD
  refine W.widen (k := 16) (n := 392) (by omega) (by omega) ?_
  refine va_astq hx hb hK hP hD hS 2 1 4 6 rfl rfl rfl rfl (by unfold vp_in; decide) dX8_init_78 (fun H locs hP hD hS => ?_)
  have hP : va_P (dC, dI) cls [(h0, .inr (8, [.ref a_1, .ref a_3, .ref a_5, .ref a_7, .ref a_9, .int 0, .int 0])), (a_1, .inl (cA_2, 5, .inr (.inr (.inr (.inr g_39))))), (a_3, .inl (cA_4, 5, .inr (.inr (.inr (.inr (va_up g_26 (1 : Int32).toNatClampNeg (some a_40))))))), (a_5, .inl (cA_6, 5, .inr (.inr (.inr (.inr g_32))))), (a_40, .inr (6, [.ref a_43, .int 0])), (a_43, .inl (a_44, 60, .inl (fun _ => 0)))] H := hP
  have hD : va_D A [(h0, .inr (8, [.ref a_1, .ref a_3, .ref a_5, .ref a_7, .ref a_9, .int 0, .int 0])), (a_1, .inl (cA_2, 5, .inr (.inr (.inr (.inr g_39))))), (a_3, .inl (cA_4, 5, .inr (.inr (.inr (.inr (va_up g_26 (1 : Int32).toNatClampNeg (some a_40))))))), (a_5, .inl (cA_6, 5, .inr (.inr (.inr (.inr g_32))))), (a_40, .inr (6, [.ref a_43, .int 0])), (a_43, .inl (a_44, 60, .inl (fun _ => 0)))] := hD
  generalize (va_up g_26 (1 : Int32).toNatClampNeg (some a_40)) = g_45 at hP hD
  have hP := hP.sub (ws' := [(h0, .inr (8, [.ref a_1, .ref a_3, .ref a_5, .ref a_7, .ref a_9, .int 0, .int 0])), (a_1, .inl (cA_2, 5, .inr (.inr (.inr (.inr g_39))))), (a_3, .inl (cA_4, 5, .inr (.inr (.inr (.inr g_45))))), (a_5, .inl (cA_6, 5, .inr (.inr (.inr (.inr g_32)))))]) [0, 1, 2, 3] rfl
  have hD := hD.sub (ws' := [(h0, .inr (8, [.ref a_1, .ref a_3, .ref a_5, .ref a_7, .ref a_9, .int 0, .int 0])), (a_1, .inl (cA_2, 5, .inr (.inr (.inr (.inr g_39))))), (a_3, .inl (cA_4, 5, .inr (.inr (.inr (.inr g_45))))), (a_5, .inl (cA_6, 5, .inr (.inr (.inr (.inr g_32)))))]) [0, 1, 2, 3] (by decide) rfl
  have hK := hK.sub (tys' := [(cA_2, .object RX6), (cA_4, .object RX6), (cA_6, .object RX6)]) [0, 1, 2] rfl
  refine lv_aload_n hx hb dX8_init_79 rfl (lv_at hl 1 rfl) ?_
  refine va_get (D := (dC, dI)) (ci := 8) (v := .ref a_5) (C := RX8) (T := TX8) (N := 7) hx hb hts ik_Trial_RX8 hown hK hP 0 rfl rfl 2 (by decide) (hts (.fieldLink RX8 20 "PutBack$Trial" "backs" "[LPutBack$Text;") (by decide +kernel)) (fun _ h9 => h9) rfl dX8_init_80 ?_
  refine lv_iload_n hx hb dX8_init_83 rfl (lv_at hl 0 rfl) ?_
  refine va_new (ci := 6) (fs := [.null, .int 0]) (C := RX6) (T := TX6) (N := 2) hx hb hts ik_Trial_RX6 tyX6 tyX6_ok hown (hts (.classLink RX8 9 RX6) (by decide +kernel)) (hts (.instantiable RX6 2) (by decide +kernel)) (hts (.initialized RX6) (by decide +kernel)) hK hP hD hS hA rfl (fun j hj => by rcases (show j = 0 ∨ j = 1 by omega) with rfl | rfl <;> rfl) (Nat.le_of_ble_eq_true rfl) (Nat.le_of_ble_eq_true rfl) dX8_init_84 (fun a_46 H hP hD hS => ?_)
  refine W.widen (k := 17) (n := 394) (Nat.le_of_ble_eq_true rfl) (Nat.le_of_ble_eq_true rfl) ?_
  have hP : va_P (dC, dI) cls [(h0, .inr (8, [.ref a_1, .ref a_3, .ref a_5, .ref a_7, .ref a_9, .int 0, .int 0])), (a_1, .inl (cA_2, 5, .inr (.inr (.inr (.inr g_39))))), (a_3, .inl (cA_4, 5, .inr (.inr (.inr (.inr g_45))))), (a_5, .inl (cA_6, 5, .inr (.inr (.inr (.inr g_32))))), (a_46, .inr (6, [.null, .int 0]))] H := hP
  have hD : va_D A [(h0, .inr (8, [.ref a_1, .ref a_3, .ref a_5, .ref a_7, .ref a_9, .int 0, .int 0])), (a_1, .inl (cA_2, 5, .inr (.inr (.inr (.inr g_39))))), (a_3, .inl (cA_4, 5, .inr (.inr (.inr (.inr g_45))))), (a_5, .inl (cA_6, 5, .inr (.inr (.inr (.inr g_32))))), (a_46, .inr (6, [.null, .int 0]))] := hD
  refine lv_dup hx hb dX8_init_87 rfl ?_
  have hPc := hP.sub (ws' := [(a_46, .inr (6, [.null, .int 0]))]) [4] rfl
  have hDc := hD.sub (ws' := [(a_46, .inr (6, [.null, .int 0]))]) [4] (by decide) rfl
  have hKc := hK.sub (tys' := []) [] rfl
  have hFc := va_free (wc := [(a_46, .inr (6, [.null, .int 0]))]) hD hS hA [4] rfl
  refine va_callv (va_runIN (As := []) (rest := [.ref a_46, .int 1, .ref a_5]) ⟨hx, hb, hml, hown, hts⟩ (k_Text l dC dI H.size a_46) ⟨va_cnB 0 hts gk_Trial_27 rfl rfl rfl n_M_RX8_27_yX6_init_PutBack (hts (.initialized RX6) (by decide +kernel)) (by decide +kernel) ⟨Nat.le_of_ble_eq_true rfl, Nat.le_of_ble_eq_true rfl⟩, rfl, (hts (.instanceMethod yX6_init) (by decide +kernel))⟩ ⟨fun a U g mk q => by obtain ⟨q0, q1, qP, qK, qD⟩ := q; exact ⟨q0, q1, qP, va_K.moved (u := U) (U := U.calling g mk a) (Vm.Alike.refl U.vm) qK, qD⟩, fun U hU hW => ⟨rfl, by rw [hU], by rw [hU]; exact hPc, va_K.moved hW.alike hKc, hDc.weaken (fun _ _ _ _ => trivial)⟩⟩ rfl rfl hl.1 rfl (lv_room (Nat.le_of_ble_eq_true rfl)) dX8_init_88 ⟨Nat.le_of_ble_eq_true rfl, Nat.le_of_ble_eq_true rfl⟩) hS (fun q _ h => hFc q h) hFc (fun u t H1 locs ht hvm hw hB hz1 hk1 hS => ?_)
  obtain ⟨a_49, a_50, hP1, hK1, hD1⟩ := hB
  have hK : va_K (dC, dI) cls [(cA_2, .object RX6), (cA_4, .object RX6), (cA_6, .object RX6), (a_50, .byte)] s := hK.app (va_K.moved hvm.symm hK1)
  rw [ht] at hP1
  try dsimp only at hw
  obtain ⟨hP, hD⟩ := va_join (wr := [(h0, .inr (8, [.ref a_1, .ref a_3, .ref a_5, .ref a_7, .ref a_9, .int 0, .int 0])), (a_1, .inl (cA_2, 5, .inr (.inr (.inr (.inr g_39))))), (a_3, .inl (cA_4, 5, .inr (.inr (.inr (.inr g_45))))), (a_5, .inl (cA_6, 5, .inr (.inr (.inr (.inr g_32)))))]) (w1 := [(a_46, .inr (6, [.ref a_49, .int 0])), (a_49, .inl (a_50, 60, .inl (fun _ => 0)))]) hP hD [4] [0, 1, 2, 3] rfl rfl (by decide) (by decide) hk1 hFc hP1 hD1
  clear hk1 hz1 hPc hDc hFc hP1 hD1 hK1 hKc
  generalize H1 = H at hP hS ⊢
  have hP : va_P (dC, dI) cls [(h0, .inr (8, [.ref a_1, .ref a_3, .ref a_5, .ref a_7, .ref a_9, .int 0, .int 0])), (a_1, .inl (cA_2, 5, .inr (.inr (.inr (.inr g_39))))), (a_3, .inl (cA_4, 5, .inr (.inr (.inr (.inr g_45))))), (a_5, .inl (cA_6, 5, .inr (.inr (.inr (.inr g_32))))), (a_46, .inr (6, [.ref a_49, .int 0])), (a_49, .inl (a_50, 60, .inl (fun _ => 0)))] H := hP
  have hD : va_D A [(h0, .inr (8, [.ref a_1, .ref a_3, .ref a_5, .ref a_7, .ref a_9, .int 0, .int 0])), (a_1, .inl (cA_2, 5, .inr (.inr (.inr (.inr g_39))))), (a_3, .inl (cA_4, 5, .inr (.inr (.inr (.inr g_45))))), (a_5, .inl (cA_6, 5, .inr (.inr (.inr (.inr g_32))))), (a_46, .inr (6, [.ref a_49, .int 0])), (a_49, .inl (a_50, 60, .inl (fun _ => 0)))] := hD
  refine W.widen (k := 18) (n := 454) (by omega) (by omega) ?_
  refine va_astq hx hb hK hP hD hS 3 2 4 6 rfl rfl rfl rfl (by unfold vp_in; decide) dX8_init_91 (fun H locs hP hD hS => ?_)
  have hP : va_P (dC, dI) cls [(h0, .inr (8, [.ref a_1, .ref a_3, .ref a_5, .ref a_7, .ref a_9, .int 0, .int 0])), (a_1, .inl (cA_2, 5, .inr (.inr (.inr (.inr g_39))))), (a_3, .inl (cA_4, 5, .inr (.inr (.inr (.inr g_45))))), (a_5, .inl (cA_6, 5, .inr (.inr (.inr (.inr (va_up g_32 (1 : Int32).toNatClampNeg (some a_46))))))), (a_46, .inr (6, [.ref a_49, .int 0])), (a_49, .inl (a_50, 60, .inl (fun _ => 0)))] H := hP
  have hD : va_D A [(h0, .inr (8, [.ref a_1, .ref a_3, .ref a_5, .ref a_7, .ref a_9, .int 0, .int 0])), (a_1, .inl (cA_2, 5, .inr (.inr (.inr (.inr g_39))))), (a_3, .inl (cA_4, 5, .inr (.inr (.inr (.inr g_45))))), (a_5, .inl (cA_6, 5, .inr (.inr (.inr (.inr (va_up g_32 (1 : Int32).toNatClampNeg (some a_46))))))), (a_46, .inr (6, [.ref a_49, .int 0])), (a_49, .inl (a_50, 60, .inl (fun _ => 0)))] := hD
  generalize (va_up g_32 (1 : Int32).toNatClampNeg (some a_46)) = g_51 at hP hD
  have hP := hP.sub (ws' := [(h0, .inr (8, [.ref a_1, .ref a_3, .ref a_5, .ref a_7, .ref a_9, .int 0, .int 0])), (a_1, .inl (cA_2, 5, .inr (.inr (.inr (.inr g_39))))), (a_3, .inl (cA_4, 5, .inr (.inr (.inr (.inr g_45))))), (a_5, .inl (cA_6, 5, .inr (.inr (.inr (.inr g_51)))))]) [0, 1, 2, 3] rfl
  have hD := hD.sub (ws' := [(h0, .inr (8, [.ref a_1, .ref a_3, .ref a_5, .ref a_7, .ref a_9, .int 0, .int 0])), (a_1, .inl (cA_2, 5, .inr (.inr (.inr (.inr g_39))))), (a_3, .inl (cA_4, 5, .inr (.inr (.inr (.inr g_45))))), (a_5, .inl (cA_6, 5, .inr (.inr (.inr (.inr g_51)))))]) [0, 1, 2, 3] (by decide) rfl
  have hK := hK.sub (tys' := [(cA_2, .object RX6), (cA_4, .object RX6), (cA_6, .object RX6)]) [0, 1, 2] rfl
  refine lv_iinc (v := 2) (lv' := [(1, .int 2), (0, .ref h0)]) hx hb dX8_init_92 hl (k := 0) rfl (by decide) (by decide) rfl (fun ls hl => ?_)
  refine lv_goto (tgt := 48) hx hb dX8_init_95 (by decide) ?_
  refine lv_iload_n hx hb dX8_init_48 rfl (lv_at hl 0 rfl) ?_
  refine lv_iconst (v := 5) hx hb dX8_init_49 (by decide) ?_
  refine lv_icmp_ge (tgt := 98) hx hb dX8_init_50 (by decide) (fun c_52 => ?_) (fun c_52 => ?_)
  · exact (by revert c_52; decide : False).elim
  refine lv_aload_n hx hb dX8_init_53 rfl (lv_at hl 1 rfl) ?_
  refine va_get (D := (dC, dI)) (ci := 8) (v := .ref a_1) (C := RX8) (T := TX8) (N := 7) hx hb hts ik_Trial_RX8 hown hK hP 0 rfl rfl 0 (by decide) (hts (.fieldLink RX8 11 "PutBack$Trial" "sources" "[LPutBack$Text;") (by decide +kernel)) (fun _ h9 => h9) rfl dX8_init_54 ?_
  refine lv_iload_n hx hb dX8_init_57 rfl (lv_at hl 0 rfl) ?_
  refine va_new (ci := 6) (fs := [.null, .int 0]) (C := RX6) (T := TX6) (N := 2) hx hb hts ik_Trial_RX6 tyX6 tyX6_ok hown (hts (.classLink RX8 9 RX6) (by decide +kernel)) (hts (.instantiable RX6 2) (by decide +kernel)) (hts (.initialized RX6) (by decide +kernel)) hK hP hD hS hA rfl (fun j hj => by rcases (show j = 0 ∨ j = 1 by omega) with rfl | rfl <;> rfl) (Nat.le_of_ble_eq_true rfl) (Nat.le_of_ble_eq_true rfl) dX8_init_58 (fun a_53 H hP hD hS => ?_)
  refine W.widen (k := 19) (n := 456) (Nat.le_of_ble_eq_true rfl) (Nat.le_of_ble_eq_true rfl) ?_
  have hP : va_P (dC, dI) cls [(h0, .inr (8, [.ref a_1, .ref a_3, .ref a_5, .ref a_7, .ref a_9, .int 0, .int 0])), (a_1, .inl (cA_2, 5, .inr (.inr (.inr (.inr g_39))))), (a_3, .inl (cA_4, 5, .inr (.inr (.inr (.inr g_45))))), (a_5, .inl (cA_6, 5, .inr (.inr (.inr (.inr g_51))))), (a_53, .inr (6, [.null, .int 0]))] H := hP
  have hD : va_D A [(h0, .inr (8, [.ref a_1, .ref a_3, .ref a_5, .ref a_7, .ref a_9, .int 0, .int 0])), (a_1, .inl (cA_2, 5, .inr (.inr (.inr (.inr g_39))))), (a_3, .inl (cA_4, 5, .inr (.inr (.inr (.inr g_45))))), (a_5, .inl (cA_6, 5, .inr (.inr (.inr (.inr g_51))))), (a_53, .inr (6, [.null, .int 0]))] := hD
  refine lv_dup hx hb dX8_init_61 rfl ?_
  have hPc := hP.sub (ws' := [(a_53, .inr (6, [.null, .int 0]))]) [4] rfl
  have hDc := hD.sub (ws' := [(a_53, .inr (6, [.null, .int 0]))]) [4] (by decide) rfl
  have hKc := hK.sub (tys' := []) [] rfl
  have hFc := va_free (wc := [(a_53, .inr (6, [.null, .int 0]))]) hD hS hA [4] rfl
  refine va_callv (va_runIN (As := []) (rest := [.ref a_53, .int 2, .ref a_1]) ⟨hx, hb, hml, hown, hts⟩ (k_Text l dC dI H.size a_53) ⟨va_cnB 0 hts gk_Trial_27 rfl rfl rfl n_M_RX8_27_yX6_init_PutBack (hts (.initialized RX6) (by decide +kernel)) (by decide +kernel) ⟨Nat.le_of_ble_eq_true rfl, Nat.le_of_ble_eq_true rfl⟩, rfl, (hts (.instanceMethod yX6_init) (by decide +kernel))⟩ ⟨fun a U g mk q => by obtain ⟨q0, q1, qP, qK, qD⟩ := q; exact ⟨q0, q1, qP, va_K.moved (u := U) (U := U.calling g mk a) (Vm.Alike.refl U.vm) qK, qD⟩, fun U hU hW => ⟨rfl, by rw [hU], by rw [hU]; exact hPc, va_K.moved hW.alike hKc, hDc.weaken (fun _ _ _ _ => trivial)⟩⟩ rfl rfl hl.1 rfl (lv_room (Nat.le_of_ble_eq_true rfl)) dX8_init_62 ⟨Nat.le_of_ble_eq_true rfl, Nat.le_of_ble_eq_true rfl⟩) hS (fun q _ h => hFc q h) hFc (fun u t H1 locs ht hvm hw hB hz1 hk1 hS => ?_)
  obtain ⟨a_56, a_57, hP1, hK1, hD1⟩ := hB
  have hK : va_K (dC, dI) cls [(cA_2, .object RX6), (cA_4, .object RX6), (cA_6, .object RX6), (a_57, .byte)] s := hK.app (va_K.moved hvm.symm hK1)
  rw [ht] at hP1
  try dsimp only at hw
  obtain ⟨hP, hD⟩ := va_join (wr := [(h0, .inr (8, [.ref a_1, .ref a_3, .ref a_5, .ref a_7, .ref a_9, .int 0, .int 0])), (a_1, .inl (cA_2, 5, .inr (.inr (.inr (.inr g_39))))), (a_3, .inl (cA_4, 5, .inr (.inr (.inr (.inr g_45))))), (a_5, .inl (cA_6, 5, .inr (.inr (.inr (.inr g_51)))))]) (w1 := [(a_53, .inr (6, [.ref a_56, .int 0])), (a_56, .inl (a_57, 60, .inl (fun _ => 0)))]) hP hD [4] [0, 1, 2, 3] rfl rfl (by decide) (by decide) hk1 hFc hP1 hD1
  clear hk1 hz1 hPc hDc hFc hP1 hD1 hK1 hKc
  generalize H1 = H at hP hS ⊢
  have hP : va_P (dC, dI) cls [(h0, .inr (8, [.ref a_1, .ref a_3, .ref a_5, .ref a_7, .ref a_9, .int 0, .int 0])), (a_1, .inl (cA_2, 5, .inr (.inr (.inr (.inr g_39))))), (a_3, .inl (cA_4, 5, .inr (.inr (.inr (.inr g_45))))), (a_5, .inl (cA_6, 5, .inr (.inr (.inr (.inr g_51))))), (a_53, .inr (6, [.ref a_56, .int 0])), (a_56, .inl (a_57, 60, .inl (fun _ => 0)))] H := hP
  have hD : va_D A [(h0, .inr (8, [.ref a_1, .ref a_3, .ref a_5, .ref a_7, .ref a_9, .int 0, .int 0])), (a_1, .inl (cA_2, 5, .inr (.inr (.inr (.inr g_39))))), (a_3, .inl (cA_4, 5, .inr (.inr (.inr (.inr g_45))))), (a_5, .inl (cA_6, 5, .inr (.inr (.inr (.inr g_51))))), (a_53, .inr (6, [.ref a_56, .int 0])), (a_56, .inl (a_57, 60, .inl (fun _ => 0)))] := hD
  refine W.widen (k := 20) (n := 516) (by omega) (by omega) ?_
  refine va_astq hx hb hK hP hD hS 1 0 4 6 rfl rfl rfl rfl (by unfold vp_in; decide) dX8_init_65 (fun H locs hP hD hS => ?_)
  have hP : va_P (dC, dI) cls [(h0, .inr (8, [.ref a_1, .ref a_3, .ref a_5, .ref a_7, .ref a_9, .int 0, .int 0])), (a_1, .inl (cA_2, 5, .inr (.inr (.inr (.inr (va_up g_39 (2 : Int32).toNatClampNeg (some a_53))))))), (a_3, .inl (cA_4, 5, .inr (.inr (.inr (.inr g_45))))), (a_5, .inl (cA_6, 5, .inr (.inr (.inr (.inr g_51))))), (a_53, .inr (6, [.ref a_56, .int 0])), (a_56, .inl (a_57, 60, .inl (fun _ => 0)))] H := hP
  have hD : va_D A [(h0, .inr (8, [.ref a_1, .ref a_3, .ref a_5, .ref a_7, .ref a_9, .int 0, .int 0])), (a_1, .inl (cA_2, 5, .inr (.inr (.inr (.inr (va_up g_39 (2 : Int32).toNatClampNeg (some a_53))))))), (a_3, .inl (cA_4, 5, .inr (.inr (.inr (.inr g_45))))), (a_5, .inl (cA_6, 5, .inr (.inr (.inr (.inr g_51))))), (a_53, .inr (6, [.ref a_56, .int 0])), (a_56, .inl (a_57, 60, .inl (fun _ => 0)))] := hD
  generalize (va_up g_39 (2 : Int32).toNatClampNeg (some a_53)) = g_58 at hP hD
  have hP := hP.sub (ws' := [(h0, .inr (8, [.ref a_1, .ref a_3, .ref a_5, .ref a_7, .ref a_9, .int 0, .int 0])), (a_1, .inl (cA_2, 5, .inr (.inr (.inr (.inr g_58))))), (a_3, .inl (cA_4, 5, .inr (.inr (.inr (.inr g_45))))), (a_5, .inl (cA_6, 5, .inr (.inr (.inr (.inr g_51)))))]) [0, 1, 2, 3] rfl
  have hD := hD.sub (ws' := [(h0, .inr (8, [.ref a_1, .ref a_3, .ref a_5, .ref a_7, .ref a_9, .int 0, .int 0])), (a_1, .inl (cA_2, 5, .inr (.inr (.inr (.inr g_58))))), (a_3, .inl (cA_4, 5, .inr (.inr (.inr (.inr g_45))))), (a_5, .inl (cA_6, 5, .inr (.inr (.inr (.inr g_51)))))]) [0, 1, 2, 3] (by decide) rfl
  have hK := hK.sub (tys' := [(cA_2, .object RX6), (cA_4, .object RX6), (cA_6, .object RX6)]) [0, 1, 2] rfl
  refine lv_aload_n hx hb dX8_init_66 rfl (lv_at hl 1 rfl) ?_
  refine va_get (D := (dC, dI)) (ci := 8) (v := .ref a_3) (C := RX8) (T := TX8) (N := 7) hx hb hts ik_Trial_RX8 hown hK hP 0 rfl rfl 1 (by decide) (hts (.fieldLink RX8 17 "PutBack$Trial" "views" "[LPutBack$Text;") (by decide +kernel)) (fun _ h9 => h9) rfl dX8_init_67 ?_
  refine lv_iload_n hx hb dX8_init_70 rfl (lv_at hl 0 rfl) ?_
  refine va_new (ci := 6) (fs := [.null, .int 0]) (C := RX6) (T := TX6) (N := 2) hx hb hts ik_Trial_RX6 tyX6 tyX6_ok hown (hts (.classLink RX8 9 RX6) (by decide +kernel)) (hts (.instantiable RX6 2) (by decide +kernel)) (hts (.initialized RX6) (by decide +kernel)) hK hP hD hS hA rfl (fun j hj => by rcases (show j = 0 ∨ j = 1 by omega) with rfl | rfl <;> rfl) (Nat.le_of_ble_eq_true rfl) (Nat.le_of_ble_eq_true rfl) dX8_init_71 (fun a_59 H hP hD hS => ?_)
  refine W.widen (k := 21) (n := 518) (Nat.le_of_ble_eq_true rfl) (Nat.le_of_ble_eq_true rfl) ?_
  have hP : va_P (dC, dI) cls [(h0, .inr (8, [.ref a_1, .ref a_3, .ref a_5, .ref a_7, .ref a_9, .int 0, .int 0])), (a_1, .inl (cA_2, 5, .inr (.inr (.inr (.inr g_58))))), (a_3, .inl (cA_4, 5, .inr (.inr (.inr (.inr g_45))))), (a_5, .inl (cA_6, 5, .inr (.inr (.inr (.inr g_51))))), (a_59, .inr (6, [.null, .int 0]))] H := hP
  have hD : va_D A [(h0, .inr (8, [.ref a_1, .ref a_3, .ref a_5, .ref a_7, .ref a_9, .int 0, .int 0])), (a_1, .inl (cA_2, 5, .inr (.inr (.inr (.inr g_58))))), (a_3, .inl (cA_4, 5, .inr (.inr (.inr (.inr g_45))))), (a_5, .inl (cA_6, 5, .inr (.inr (.inr (.inr g_51))))), (a_59, .inr (6, [.null, .int 0]))] := hD
  refine lv_dup hx hb dX8_init_74 rfl ?_
  have hPc := hP.sub (ws' := [(a_59, .inr (6, [.null, .int 0]))]) [4] rfl
  have hDc := hD.sub (ws' := [(a_59, .inr (6, [.null, .int 0]))]) [4] (by decide) rfl
  have hKc := hK.sub (tys' := []) [] rfl
  have hFc := va_free (wc := [(a_59, .inr (6, [.null, .int 0]))]) hD hS hA [4] rfl
  refine va_callv (va_runIN (As := []) (rest := [.ref a_59, .int 2, .ref a_3]) ⟨hx, hb, hml, hown, hts⟩ (k_Text l dC dI H.size a_59) ⟨va_cnB 0 hts gk_Trial_27 rfl rfl rfl n_M_RX8_27_yX6_init_PutBack (hts (.initialized RX6) (by decide +kernel)) (by decide +kernel) ⟨Nat.le_of_ble_eq_true rfl, Nat.le_of_ble_eq_true rfl⟩, rfl, (hts (.instanceMethod yX6_init) (by decide +kernel))⟩ ⟨fun a U g mk q => by obtain ⟨q0, q1, qP, qK, qD⟩ := q; exact ⟨q0, q1, qP, va_K.moved (u := U) (U := U.calling g mk a) (Vm.Alike.refl U.vm) qK, qD⟩, fun U hU hW => ⟨rfl, by rw [hU], by rw [hU]; exact hPc, va_K.moved hW.alike hKc, hDc.weaken (fun _ _ _ _ => trivial)⟩⟩ rfl rfl hl.1 rfl (lv_room (Nat.le_of_ble_eq_true rfl)) dX8_init_75 ⟨Nat.le_of_ble_eq_true rfl, Nat.le_of_ble_eq_true rfl⟩) hS (fun q _ h => hFc q h) hFc (fun u t H1 locs ht hvm hw hB hz1 hk1 hS => ?_)
  obtain ⟨a_62, a_63, hP1, hK1, hD1⟩ := hB
  have hK : va_K (dC, dI) cls [(cA_2, .object RX6), (cA_4, .object RX6), (cA_6, .object RX6), (a_63, .byte)] s := hK.app (va_K.moved hvm.symm hK1)
  rw [ht] at hP1
  try dsimp only at hw
  obtain ⟨hP, hD⟩ := va_join (wr := [(h0, .inr (8, [.ref a_1, .ref a_3, .ref a_5, .ref a_7, .ref a_9, .int 0, .int 0])), (a_1, .inl (cA_2, 5, .inr (.inr (.inr (.inr g_58))))), (a_3, .inl (cA_4, 5, .inr (.inr (.inr (.inr g_45))))), (a_5, .inl (cA_6, 5, .inr (.inr (.inr (.inr g_51)))))]) (w1 := [(a_59, .inr (6, [.ref a_62, .int 0])), (a_62, .inl (a_63, 60, .inl (fun _ => 0)))]) hP hD [4] [0, 1, 2, 3] rfl rfl (by decide) (by decide) hk1 hFc hP1 hD1
  clear hk1 hz1 hPc hDc hFc hP1 hD1 hK1 hKc
  generalize H1 = H at hP hS ⊢
  have hP : va_P (dC, dI) cls [(h0, .inr (8, [.ref a_1, .ref a_3, .ref a_5, .ref a_7, .ref a_9, .int 0, .int 0])), (a_1, .inl (cA_2, 5, .inr (.inr (.inr (.inr g_58))))), (a_3, .inl (cA_4, 5, .inr (.inr (.inr (.inr g_45))))), (a_5, .inl (cA_6, 5, .inr (.inr (.inr (.inr g_51))))), (a_59, .inr (6, [.ref a_62, .int 0])), (a_62, .inl (a_63, 60, .inl (fun _ => 0)))] H := hP
  have hD : va_D A [(h0, .inr (8, [.ref a_1, .ref a_3, .ref a_5, .ref a_7, .ref a_9, .int 0, .int 0])), (a_1, .inl (cA_2, 5, .inr (.inr (.inr (.inr g_58))))), (a_3, .inl (cA_4, 5, .inr (.inr (.inr (.inr g_45))))), (a_5, .inl (cA_6, 5, .inr (.inr (.inr (.inr g_51))))), (a_59, .inr (6, [.ref a_62, .int 0])), (a_62, .inl (a_63, 60, .inl (fun _ => 0)))] := hD
  refine W.widen (k := 22) (n := 578) (by omega) (by omega) ?_
  refine va_astq hx hb hK hP hD hS 2 1 4 6 rfl rfl rfl rfl (by unfold vp_in; decide) dX8_init_78 (fun H locs hP hD hS => ?_)
  have hP : va_P (dC, dI) cls [(h0, .inr (8, [.ref a_1, .ref a_3, .ref a_5, .ref a_7, .ref a_9, .int 0, .int 0])), (a_1, .inl (cA_2, 5, .inr (.inr (.inr (.inr g_58))))), (a_3, .inl (cA_4, 5, .inr (.inr (.inr (.inr (va_up g_45 (2 : Int32).toNatClampNeg (some a_59))))))), (a_5, .inl (cA_6, 5, .inr (.inr (.inr (.inr g_51))))), (a_59, .inr (6, [.ref a_62, .int 0])), (a_62, .inl (a_63, 60, .inl (fun _ => 0)))] H := hP
  have hD : va_D A [(h0, .inr (8, [.ref a_1, .ref a_3, .ref a_5, .ref a_7, .ref a_9, .int 0, .int 0])), (a_1, .inl (cA_2, 5, .inr (.inr (.inr (.inr g_58))))), (a_3, .inl (cA_4, 5, .inr (.inr (.inr (.inr (va_up g_45 (2 : Int32).toNatClampNeg (some a_59))))))), (a_5, .inl (cA_6, 5, .inr (.inr (.inr (.inr g_51))))), (a_59, .inr (6, [.ref a_62, .int 0])), (a_62, .inl (a_63, 60, .inl (fun _ => 0)))] := hD
  generalize (va_up g_45 (2 : Int32).toNatClampNeg (some a_59)) = g_64 at hP hD
  have hP := hP.sub (ws' := [(h0, .inr (8, [.ref a_1, .ref a_3, .ref a_5, .ref a_7, .ref a_9, .int 0, .int 0])), (a_1, .inl (cA_2, 5, .inr (.inr (.inr (.inr g_58))))), (a_3, .inl (cA_4, 5, .inr (.inr (.inr (.inr g_64))))), (a_5, .inl (cA_6, 5, .inr (.inr (.inr (.inr g_51)))))]) [0, 1, 2, 3] rfl
  have hD := hD.sub (ws' := [(h0, .inr (8, [.ref a_1, .ref a_3, .ref a_5, .ref a_7, .ref a_9, .int 0, .int 0])), (a_1, .inl (cA_2, 5, .inr (.inr (.inr (.inr g_58))))), (a_3, .inl (cA_4, 5, .inr (.inr (.inr (.inr g_64))))), (a_5, .inl (cA_6, 5, .inr (.inr (.inr (.inr g_51)))))]) [0, 1, 2, 3] (by decide) rfl
  have hK := hK.sub (tys' := [(cA_2, .object RX6), (cA_4, .object RX6), (cA_6, .object RX6)]) [0, 1, 2] rfl
  refine lv_aload_n hx hb dX8_init_79 rfl (lv_at hl 1 rfl) ?_
  refine va_get (D := (dC, dI)) (ci := 8) (v := .ref a_5) (C := RX8) (T := TX8) (N := 7) hx hb hts ik_Trial_RX8 hown hK hP 0 rfl rfl 2 (by decide) (hts (.fieldLink RX8 20 "PutBack$Trial" "backs" "[LPutBack$Text;") (by decide +kernel)) (fun _ h9 => h9) rfl dX8_init_80 ?_
  refine lv_iload_n hx hb dX8_init_83 rfl (lv_at hl 0 rfl) ?_
  refine va_new (ci := 6) (fs := [.null, .int 0]) (C := RX6) (T := TX6) (N := 2) hx hb hts ik_Trial_RX6 tyX6 tyX6_ok hown (hts (.classLink RX8 9 RX6) (by decide +kernel)) (hts (.instantiable RX6 2) (by decide +kernel)) (hts (.initialized RX6) (by decide +kernel)) hK hP hD hS hA rfl (fun j hj => by rcases (show j = 0 ∨ j = 1 by omega) with rfl | rfl <;> rfl) (Nat.le_of_ble_eq_true rfl) (Nat.le_of_ble_eq_true rfl) dX8_init_84 (fun a_65 H hP hD hS => ?_)
  refine W.widen (k := 23) (n := 580) (Nat.le_of_ble_eq_true rfl) (Nat.le_of_ble_eq_true rfl) ?_
  have hP : va_P (dC, dI) cls [(h0, .inr (8, [.ref a_1, .ref a_3, .ref a_5, .ref a_7, .ref a_9, .int 0, .int 0])), (a_1, .inl (cA_2, 5, .inr (.inr (.inr (.inr g_58))))), (a_3, .inl (cA_4, 5, .inr (.inr (.inr (.inr g_64))))), (a_5, .inl (cA_6, 5, .inr (.inr (.inr (.inr g_51))))), (a_65, .inr (6, [.null, .int 0]))] H := hP
  have hD : va_D A [(h0, .inr (8, [.ref a_1, .ref a_3, .ref a_5, .ref a_7, .ref a_9, .int 0, .int 0])), (a_1, .inl (cA_2, 5, .inr (.inr (.inr (.inr g_58))))), (a_3, .inl (cA_4, 5, .inr (.inr (.inr (.inr g_64))))), (a_5, .inl (cA_6, 5, .inr (.inr (.inr (.inr g_51))))), (a_65, .inr (6, [.null, .int 0]))] := hD
  refine lv_dup hx hb dX8_init_87 rfl ?_
  have hPc := hP.sub (ws' := [(a_65, .inr (6, [.null, .int 0]))]) [4] rfl
  have hDc := hD.sub (ws' := [(a_65, .inr (6, [.null, .int 0]))]) [4] (by decide) rfl
  have hKc := hK.sub (tys' := []) [] rfl
  have hFc := va_free (wc := [(a_65, .inr (6, [.null, .int 0]))]) hD hS hA [4] rfl
  refine va_callv (va_runIN (As := []) (rest := [.ref a_65, .int 2, .ref a_5]) ⟨hx, hb, hml, hown, hts⟩ (k_Text l dC dI H.size a_65) ⟨va_cnB 0 hts gk_Trial_27 rfl rfl rfl n_M_RX8_27_yX6_init_PutBack (hts (.initialized RX6) (by decide +kernel)) (by decide +kernel) ⟨Nat.le_of_ble_eq_true rfl, Nat.le_of_ble_eq_true rfl⟩, rfl, (hts (.instanceMethod yX6_init) (by decide +kernel))⟩ ⟨fun a U g mk q => by obtain ⟨q0, q1, qP, qK, qD⟩ := q; exact ⟨q0, q1, qP, va_K.moved (u := U) (U := U.calling g mk a) (Vm.Alike.refl U.vm) qK, qD⟩, fun U hU hW => ⟨rfl, by rw [hU], by rw [hU]; exact hPc, va_K.moved hW.alike hKc, hDc.weaken (fun _ _ _ _ => trivial)⟩⟩ rfl rfl hl.1 rfl (lv_room (Nat.le_of_ble_eq_true rfl)) dX8_init_88 ⟨Nat.le_of_ble_eq_true rfl, Nat.le_of_ble_eq_true rfl⟩) hS (fun q _ h => hFc q h) hFc (fun u t H1 locs ht hvm hw hB hz1 hk1 hS => ?_)
  obtain ⟨a_68, a_69, hP1, hK1, hD1⟩ := hB
  have hK : va_K (dC, dI) cls [(cA_2, .object RX6), (cA_4, .object RX6), (cA_6, .object RX6), (a_69, .byte)] s := hK.app (va_K.moved hvm.symm hK1)
  rw [ht] at hP1
  try dsimp only at hw
  obtain ⟨hP, hD⟩ := va_join (wr := [(h0, .inr (8, [.ref a_1, .ref a_3, .ref a_5, .ref a_7, .ref a_9, .int 0, .int 0])), (a_1, .inl (cA_2, 5, .inr (.inr (.inr (.inr g_58))))), (a_3, .inl (cA_4, 5, .inr (.inr (.inr (.inr g_64))))), (a_5, .inl (cA_6, 5, .inr (.inr (.inr (.inr g_51)))))]) (w1 := [(a_65, .inr (6, [.ref a_68, .int 0])), (a_68, .inl (a_69, 60, .inl (fun _ => 0)))]) hP hD [4] [0, 1, 2, 3] rfl rfl (by decide) (by decide) hk1 hFc hP1 hD1
  clear hk1 hz1 hPc hDc hFc hP1 hD1 hK1 hKc
  generalize H1 = H at hP hS ⊢
  have hP : va_P (dC, dI) cls [(h0, .inr (8, [.ref a_1, .ref a_3, .ref a_5, .ref a_7, .ref a_9, .int 0, .int 0])), (a_1, .inl (cA_2, 5, .inr (.inr (.inr (.inr g_58))))), (a_3, .inl (cA_4, 5, .inr (.inr (.inr (.inr g_64))))), (a_5, .inl (cA_6, 5, .inr (.inr (.inr (.inr g_51))))), (a_65, .inr (6, [.ref a_68, .int 0])), (a_68, .inl (a_69, 60, .inl (fun _ => 0)))] H := hP
  have hD : va_D A [(h0, .inr (8, [.ref a_1, .ref a_3, .ref a_5, .ref a_7, .ref a_9, .int 0, .int 0])), (a_1, .inl (cA_2, 5, .inr (.inr (.inr (.inr g_58))))), (a_3, .inl (cA_4, 5, .inr (.inr (.inr (.inr g_64))))), (a_5, .inl (cA_6, 5, .inr (.inr (.inr (.inr g_51))))), (a_65, .inr (6, [.ref a_68, .int 0])), (a_68, .inl (a_69, 60, .inl (fun _ => 0)))] := hD
  refine W.widen (k := 24) (n := 640) (by omega) (by omega) ?_
  refine va_astq hx hb hK hP hD hS 3 2 4 6 rfl rfl rfl rfl (by unfold vp_in; decide) dX8_init_91 (fun H locs hP hD hS => ?_)
  have hP : va_P (dC, dI) cls [(h0, .inr (8, [.ref a_1, .ref a_3, .ref a_5, .ref a_7, .ref a_9, .int 0, .int 0])), (a_1, .inl (cA_2, 5, .inr (.inr (.inr (.inr g_58))))), (a_3, .inl (cA_4, 5, .inr (.inr (.inr (.inr g_64))))), (a_5, .inl (cA_6, 5, .inr (.inr (.inr (.inr (va_up g_51 (2 : Int32).toNatClampNeg (some a_65))))))), (a_65, .inr (6, [.ref a_68, .int 0])), (a_68, .inl (a_69, 60, .inl (fun _ => 0)))] H := hP
  have hD : va_D A [(h0, .inr (8, [.ref a_1, .ref a_3, .ref a_5, .ref a_7, .ref a_9, .int 0, .int 0])), (a_1, .inl (cA_2, 5, .inr (.inr (.inr (.inr g_58))))), (a_3, .inl (cA_4, 5, .inr (.inr (.inr (.inr g_64))))), (a_5, .inl (cA_6, 5, .inr (.inr (.inr (.inr (va_up g_51 (2 : Int32).toNatClampNeg (some a_65))))))), (a_65, .inr (6, [.ref a_68, .int 0])), (a_68, .inl (a_69, 60, .inl (fun _ => 0)))] := hD
  generalize (va_up g_51 (2 : Int32).toNatClampNeg (some a_65)) = g_70 at hP hD
  have hP := hP.sub (ws' := [(h0, .inr (8, [.ref a_1, .ref a_3, .ref a_5, .ref a_7, .ref a_9, .int 0, .int 0])), (a_1, .inl (cA_2, 5, .inr (.inr (.inr (.inr g_58))))), (a_3, .inl (cA_4, 5, .inr (.inr (.inr (.inr g_64))))), (a_5, .inl (cA_6, 5, .inr (.inr (.inr (.inr g_70)))))]) [0, 1, 2, 3] rfl
  have hD := hD.sub (ws' := [(h0, .inr (8, [.ref a_1, .ref a_3, .ref a_5, .ref a_7, .ref a_9, .int 0, .int 0])), (a_1, .inl (cA_2, 5, .inr (.inr (.inr (.inr g_58))))), (a_3, .inl (cA_4, 5, .inr (.inr (.inr (.inr g_64))))), (a_5, .inl (cA_6, 5, .inr (.inr (.inr (.inr g_70)))))]) [0, 1, 2, 3] (by decide) rfl
  have hK := hK.sub (tys' := [(cA_2, .object RX6), (cA_4, .object RX6), (cA_6, .object RX6)]) [0, 1, 2] rfl
  refine lv_iinc (v := 3) (lv' := [(1, .int 3), (0, .ref h0)]) hx hb dX8_init_92 hl (k := 0) rfl (by decide) (by decide) rfl (fun ls hl => ?_)
  refine lv_goto (tgt := 48) hx hb dX8_init_95 (by decide) ?_
  refine lv_iload_n hx hb dX8_init_48 rfl (lv_at hl 0 rfl) ?_
  refine lv_iconst (v := 5) hx hb dX8_init_49 (by decide) ?_
  refine lv_icmp_ge (tgt := 98) hx hb dX8_init_50 (by decide) (fun c_71 => ?_) (fun c_71 => ?_)
  · exact (by revert c_71; decide : False).elim
  refine lv_aload_n hx hb dX8_init_53 rfl (lv_at hl 1 rfl) ?_
  refine va_get (D := (dC, dI)) (ci := 8) (v := .ref a_1) (C := RX8) (T := TX8) (N := 7) hx hb hts ik_Trial_RX8 hown hK hP 0 rfl rfl 0 (by decide) (hts (.fieldLink RX8 11 "PutBack$Trial" "sources" "[LPutBack$Text;") (by decide +kernel)) (fun _ h9 => h9) rfl dX8_init_54 ?_
  refine lv_iload_n hx hb dX8_init_57 rfl (lv_at hl 0 rfl) ?_
  refine va_new (ci := 6) (fs := [.null, .int 0]) (C := RX6) (T := TX6) (N := 2) hx hb hts ik_Trial_RX6 tyX6 tyX6_ok hown (hts (.classLink RX8 9 RX6) (by decide +kernel)) (hts (.instantiable RX6 2) (by decide +kernel)) (hts (.initialized RX6) (by decide +kernel)) hK hP hD hS hA rfl (fun j hj => by rcases (show j = 0 ∨ j = 1 by omega) with rfl | rfl <;> rfl) (Nat.le_of_ble_eq_true rfl) (Nat.le_of_ble_eq_true rfl) dX8_init_58 (fun a_72 H hP hD hS => ?_)
  refine W.widen (k := 25) (n := 642) (Nat.le_of_ble_eq_true rfl) (Nat.le_of_ble_eq_true rfl) ?_
  have hP : va_P (dC, dI) cls [(h0, .inr (8, [.ref a_1, .ref a_3, .ref a_5, .ref a_7, .ref a_9, .int 0, .int 0])), (a_1, .inl (cA_2, 5, .inr (.inr (.inr (.inr g_58))))), (a_3, .inl (cA_4, 5, .inr (.inr (.inr (.inr g_64))))), (a_5, .inl (cA_6, 5, .inr (.inr (.inr (.inr g_70))))), (a_72, .inr (6, [.null, .int 0]))] H := hP
  have hD : va_D A [(h0, .inr (8, [.ref a_1, .ref a_3, .ref a_5, .ref a_7, .ref a_9, .int 0, .int 0])), (a_1, .inl (cA_2, 5, .inr (.inr (.inr (.inr g_58))))), (a_3, .inl (cA_4, 5, .inr (.inr (.inr (.inr g_64))))), (a_5, .inl (cA_6, 5, .inr (.inr (.inr (.inr g_70))))), (a_72, .inr (6, [.null, .int 0]))] := hD
  refine lv_dup hx hb dX8_init_61 rfl ?_
  have hPc := hP.sub (ws' := [(a_72, .inr (6, [.null, .int 0]))]) [4] rfl
  have hDc := hD.sub (ws' := [(a_72, .inr (6, [.null, .int 0]))]) [4] (by decide) rfl
  have hKc := hK.sub (tys' := []) [] rfl
  have hFc := va_free (wc := [(a_72, .inr (6, [.null, .int 0]))]) hD hS hA [4] rfl
  refine va_callv (va_runIN (As := []) (rest := [.ref a_72, .int 3, .ref a_1]) ⟨hx, hb, hml, hown, hts⟩ (k_Text l dC dI H.size a_72) ⟨va_cnB 0 hts gk_Trial_27 rfl rfl rfl n_M_RX8_27_yX6_init_PutBack (hts (.initialized RX6) (by decide +kernel)) (by decide +kernel) ⟨Nat.le_of_ble_eq_true rfl, Nat.le_of_ble_eq_true rfl⟩, rfl, (hts (.instanceMethod yX6_init) (by decide +kernel))⟩ ⟨fun a U g mk q => by obtain ⟨q0, q1, qP, qK, qD⟩ := q; exact ⟨q0, q1, qP, va_K.moved (u := U) (U := U.calling g mk a) (Vm.Alike.refl U.vm) qK, qD⟩, fun U hU hW => ⟨rfl, by rw [hU], by rw [hU]; exact hPc, va_K.moved hW.alike hKc, hDc.weaken (fun _ _ _ _ => trivial)⟩⟩ rfl rfl hl.1 rfl (lv_room (Nat.le_of_ble_eq_true rfl)) dX8_init_62 ⟨Nat.le_of_ble_eq_true rfl, Nat.le_of_ble_eq_true rfl⟩) hS (fun q _ h => hFc q h) hFc (fun u t H1 locs ht hvm hw hB hz1 hk1 hS => ?_)
  obtain ⟨a_75, a_76, hP1, hK1, hD1⟩ := hB
  have hK : va_K (dC, dI) cls [(cA_2, .object RX6), (cA_4, .object RX6), (cA_6, .object RX6), (a_76, .byte)] s := hK.app (va_K.moved hvm.symm hK1)
  rw [ht] at hP1
  try dsimp only at hw
  obtain ⟨hP, hD⟩ := va_join (wr := [(h0, .inr (8, [.ref a_1, .ref a_3, .ref a_5, .ref a_7, .ref a_9, .int 0, .int 0])), (a_1, .inl (cA_2, 5, .inr (.inr (.inr (.inr g_58))))), (a_3, .inl (cA_4, 5, .inr (.inr (.inr (.inr g_64))))), (a_5, .inl (cA_6, 5, .inr (.inr (.inr (.inr g_70)))))]) (w1 := [(a_72, .inr (6, [.ref a_75, .int 0])), (a_75, .inl (a_76, 60, .inl (fun _ => 0)))]) hP hD [4] [0, 1, 2, 3] rfl rfl (by decide) (by decide) hk1 hFc hP1 hD1
  clear hk1 hz1 hPc hDc hFc hP1 hD1 hK1 hKc
  generalize H1 = H at hP hS ⊢
  have hP : va_P (dC, dI) cls [(h0, .inr (8, [.ref a_1, .ref a_3, .ref a_5, .ref a_7, .ref a_9, .int 0, .int 0])), (a_1, .inl (cA_2, 5, .inr (.inr (.inr (.inr g_58))))), (a_3, .inl (cA_4, 5, .inr (.inr (.inr (.inr g_64))))), (a_5, .inl (cA_6, 5, .inr (.inr (.inr (.inr g_70))))), (a_72, .inr (6, [.ref a_75, .int 0])), (a_75, .inl (a_76, 60, .inl (fun _ => 0)))] H := hP
  have hD : va_D A [(h0, .inr (8, [.ref a_1, .ref a_3, .ref a_5, .ref a_7, .ref a_9, .int 0, .int 0])), (a_1, .inl (cA_2, 5, .inr (.inr (.inr (.inr g_58))))), (a_3, .inl (cA_4, 5, .inr (.inr (.inr (.inr g_64))))), (a_5, .inl (cA_6, 5, .inr (.inr (.inr (.inr g_70))))), (a_72, .inr (6, [.ref a_75, .int 0])), (a_75, .inl (a_76, 60, .inl (fun _ => 0)))] := hD
  refine W.widen (k := 26) (n := 702) (by omega) (by omega) ?_
  refine va_astq hx hb hK hP hD hS 1 0 4 6 rfl rfl rfl rfl (by unfold vp_in; decide) dX8_init_65 (fun H locs hP hD hS => ?_)
  have hP : va_P (dC, dI) cls [(h0, .inr (8, [.ref a_1, .ref a_3, .ref a_5, .ref a_7, .ref a_9, .int 0, .int 0])), (a_1, .inl (cA_2, 5, .inr (.inr (.inr (.inr (va_up g_58 (3 : Int32).toNatClampNeg (some a_72))))))), (a_3, .inl (cA_4, 5, .inr (.inr (.inr (.inr g_64))))), (a_5, .inl (cA_6, 5, .inr (.inr (.inr (.inr g_70))))), (a_72, .inr (6, [.ref a_75, .int 0])), (a_75, .inl (a_76, 60, .inl (fun _ => 0)))] H := hP
  have hD : va_D A [(h0, .inr (8, [.ref a_1, .ref a_3, .ref a_5, .ref a_7, .ref a_9, .int 0, .int 0])), (a_1, .inl (cA_2, 5, .inr (.inr (.inr (.inr (va_up g_58 (3 : Int32).toNatClampNeg (some a_72))))))), (a_3, .inl (cA_4, 5, .inr (.inr (.inr (.inr g_64))))), (a_5, .inl (cA_6, 5, .inr (.inr (.inr (.inr g_70))))), (a_72, .inr (6, [.ref a_75, .int 0])), (a_75, .inl (a_76, 60, .inl (fun _ => 0)))] := hD
  generalize (va_up g_58 (3 : Int32).toNatClampNeg (some a_72)) = g_77 at hP hD
  have hP := hP.sub (ws' := [(h0, .inr (8, [.ref a_1, .ref a_3, .ref a_5, .ref a_7, .ref a_9, .int 0, .int 0])), (a_1, .inl (cA_2, 5, .inr (.inr (.inr (.inr g_77))))), (a_3, .inl (cA_4, 5, .inr (.inr (.inr (.inr g_64))))), (a_5, .inl (cA_6, 5, .inr (.inr (.inr (.inr g_70)))))]) [0, 1, 2, 3] rfl
  have hD := hD.sub (ws' := [(h0, .inr (8, [.ref a_1, .ref a_3, .ref a_5, .ref a_7, .ref a_9, .int 0, .int 0])), (a_1, .inl (cA_2, 5, .inr (.inr (.inr (.inr g_77))))), (a_3, .inl (cA_4, 5, .inr (.inr (.inr (.inr g_64))))), (a_5, .inl (cA_6, 5, .inr (.inr (.inr (.inr g_70)))))]) [0, 1, 2, 3] (by decide) rfl
  have hK := hK.sub (tys' := [(cA_2, .object RX6), (cA_4, .object RX6), (cA_6, .object RX6)]) [0, 1, 2] rfl
  refine lv_aload_n hx hb dX8_init_66 rfl (lv_at hl 1 rfl) ?_
  refine va_get (D := (dC, dI)) (ci := 8) (v := .ref a_3) (C := RX8) (T := TX8) (N := 7) hx hb hts ik_Trial_RX8 hown hK hP 0 rfl rfl 1 (by decide) (hts (.fieldLink RX8 17 "PutBack$Trial" "views" "[LPutBack$Text;") (by decide +kernel)) (fun _ h9 => h9) rfl dX8_init_67 ?_
  refine lv_iload_n hx hb dX8_init_70 rfl (lv_at hl 0 rfl) ?_
  refine va_new (ci := 6) (fs := [.null, .int 0]) (C := RX6) (T := TX6) (N := 2) hx hb hts ik_Trial_RX6 tyX6 tyX6_ok hown (hts (.classLink RX8 9 RX6) (by decide +kernel)) (hts (.instantiable RX6 2) (by decide +kernel)) (hts (.initialized RX6) (by decide +kernel)) hK hP hD hS hA rfl (fun j hj => by rcases (show j = 0 ∨ j = 1 by omega) with rfl | rfl <;> rfl) (Nat.le_of_ble_eq_true rfl) (Nat.le_of_ble_eq_true rfl) dX8_init_71 (fun a_78 H hP hD hS => ?_)
  refine W.widen (k := 27) (n := 704) (Nat.le_of_ble_eq_true rfl) (Nat.le_of_ble_eq_true rfl) ?_
  have hP : va_P (dC, dI) cls [(h0, .inr (8, [.ref a_1, .ref a_3, .ref a_5, .ref a_7, .ref a_9, .int 0, .int 0])), (a_1, .inl (cA_2, 5, .inr (.inr (.inr (.inr g_77))))), (a_3, .inl (cA_4, 5, .inr (.inr (.inr (.inr g_64))))), (a_5, .inl (cA_6, 5, .inr (.inr (.inr (.inr g_70))))), (a_78, .inr (6, [.null, .int 0]))] H := hP
  have hD : va_D A [(h0, .inr (8, [.ref a_1, .ref a_3, .ref a_5, .ref a_7, .ref a_9, .int 0, .int 0])), (a_1, .inl (cA_2, 5, .inr (.inr (.inr (.inr g_77))))), (a_3, .inl (cA_4, 5, .inr (.inr (.inr (.inr g_64))))), (a_5, .inl (cA_6, 5, .inr (.inr (.inr (.inr g_70))))), (a_78, .inr (6, [.null, .int 0]))] := hD
  refine lv_dup hx hb dX8_init_74 rfl ?_
  have hPc := hP.sub (ws' := [(a_78, .inr (6, [.null, .int 0]))]) [4] rfl
  have hDc := hD.sub (ws' := [(a_78, .inr (6, [.null, .int 0]))]) [4] (by decide) rfl
  have hKc := hK.sub (tys' := []) [] rfl
  have hFc := va_free (wc := [(a_78, .inr (6, [.null, .int 0]))]) hD hS hA [4] rfl
  refine va_callv (va_runIN (As := []) (rest := [.ref a_78, .int 3, .ref a_3]) ⟨hx, hb, hml, hown, hts⟩ (k_Text l dC dI H.size a_78) ⟨va_cnB 0 hts gk_Trial_27 rfl rfl rfl n_M_RX8_27_yX6_init_PutBack (hts (.initialized RX6) (by decide +kernel)) (by decide +kernel) ⟨Nat.le_of_ble_eq_true rfl, Nat.le_of_ble_eq_true rfl⟩, rfl, (hts (.instanceMethod yX6_init) (by decide +kernel))⟩ ⟨fun a U g mk q => by obtain ⟨q0, q1, qP, qK, qD⟩ := q; exact ⟨q0, q1, qP, va_K.moved (u := U) (U := U.calling g mk a) (Vm.Alike.refl U.vm) qK, qD⟩, fun U hU hW => ⟨rfl, by rw [hU], by rw [hU]; exact hPc, va_K.moved hW.alike hKc, hDc.weaken (fun _ _ _ _ => trivial)⟩⟩ rfl rfl hl.1 rfl (lv_room (Nat.le_of_ble_eq_true rfl)) dX8_init_75 ⟨Nat.le_of_ble_eq_true rfl, Nat.le_of_ble_eq_true rfl⟩) hS (fun q _ h => hFc q h) hFc (fun u t H1 locs ht hvm hw hB hz1 hk1 hS => ?_)
  obtain ⟨a_81, a_82, hP1, hK1, hD1⟩ := hB
  have hK : va_K (dC, dI) cls [(cA_2, .object RX6), (cA_4, .object RX6), (cA_6, .object RX6), (a_82, .byte)] s := hK.app (va_K.moved hvm.symm hK1)
  rw [ht] at hP1
  try dsimp only at hw
  obtain ⟨hP, hD⟩ := va_join (wr := [(h0, .inr (8, [.ref a_1, .ref a_3, .ref a_5, .ref a_7, .ref a_9, .int 0, .int 0])), (a_1, .inl (cA_2, 5, .inr (.inr (.inr (.inr g_77))))), (a_3, .inl (cA_4, 5, .inr (.inr (.inr (.inr g_64))))), (a_5, .inl (cA_6, 5, .inr (.inr (.inr (.inr g_70)))))]) (w1 := [(a_78, .inr (6, [.ref a_81, .int 0])), (a_81, .inl (a_82, 60, .inl (fun _ => 0)))]) hP hD [4] [0, 1, 2, 3] rfl rfl (by decide) (by decide) hk1 hFc hP1 hD1
  clear hk1 hz1 hPc hDc hFc hP1 hD1 hK1 hKc
  generalize H1 = H at hP hS ⊢
  have hP : va_P (dC, dI) cls [(h0, .inr (8, [.ref a_1, .ref a_3, .ref a_5, .ref a_7, .ref a_9, .int 0, .int 0])), (a_1, .inl (cA_2, 5, .inr (.inr (.inr (.inr g_77))))), (a_3, .inl (cA_4, 5, .inr (.inr (.inr (.inr g_64))))), (a_5, .inl (cA_6, 5, .inr (.inr (.inr (.inr g_70))))), (a_78, .inr (6, [.ref a_81, .int 0])), (a_81, .inl (a_82, 60, .inl (fun _ => 0)))] H := hP
  have hD : va_D A [(h0, .inr (8, [.ref a_1, .ref a_3, .ref a_5, .ref a_7, .ref a_9, .int 0, .int 0])), (a_1, .inl (cA_2, 5, .inr (.inr (.inr (.inr g_77))))), (a_3, .inl (cA_4, 5, .inr (.inr (.inr (.inr g_64))))), (a_5, .inl (cA_6, 5, .inr (.inr (.inr (.inr g_70))))), (a_78, .inr (6, [.ref a_81, .int 0])), (a_81, .inl (a_82, 60, .inl (fun _ => 0)))] := hD
  refine W.widen (k := 28) (n := 764) (by omega) (by omega) ?_
  refine va_astq hx hb hK hP hD hS 2 1 4 6 rfl rfl rfl rfl (by unfold vp_in; decide) dX8_init_78 (fun H locs hP hD hS => ?_)
  have hP : va_P (dC, dI) cls [(h0, .inr (8, [.ref a_1, .ref a_3, .ref a_5, .ref a_7, .ref a_9, .int 0, .int 0])), (a_1, .inl (cA_2, 5, .inr (.inr (.inr (.inr g_77))))), (a_3, .inl (cA_4, 5, .inr (.inr (.inr (.inr (va_up g_64 (3 : Int32).toNatClampNeg (some a_78))))))), (a_5, .inl (cA_6, 5, .inr (.inr (.inr (.inr g_70))))), (a_78, .inr (6, [.ref a_81, .int 0])), (a_81, .inl (a_82, 60, .inl (fun _ => 0)))] H := hP
  have hD : va_D A [(h0, .inr (8, [.ref a_1, .ref a_3, .ref a_5, .ref a_7, .ref a_9, .int 0, .int 0])), (a_1, .inl (cA_2, 5, .inr (.inr (.inr (.inr g_77))))), (a_3, .inl (cA_4, 5, .inr (.inr (.inr (.inr (va_up g_64 (3 : Int32).toNatClampNeg (some a_78))))))), (a_5, .inl (cA_6, 5, .inr (.inr (.inr (.inr g_70))))), (a_78, .inr (6, [.ref a_81, .int 0])), (a_81, .inl (a_82, 60, .inl (fun _ => 0)))] := hD
  generalize (va_up g_64 (3 : Int32).toNatClampNeg (some a_78)) = g_83 at hP hD
  have hP := hP.sub (ws' := [(h0, .inr (8, [.ref a_1, .ref a_3, .ref a_5, .ref a_7, .ref a_9, .int 0, .int 0])), (a_1, .inl (cA_2, 5, .inr (.inr (.inr (.inr g_77))))), (a_3, .inl (cA_4, 5, .inr (.inr (.inr (.inr g_83))))), (a_5, .inl (cA_6, 5, .inr (.inr (.inr (.inr g_70)))))]) [0, 1, 2, 3] rfl
  have hD := hD.sub (ws' := [(h0, .inr (8, [.ref a_1, .ref a_3, .ref a_5, .ref a_7, .ref a_9, .int 0, .int 0])), (a_1, .inl (cA_2, 5, .inr (.inr (.inr (.inr g_77))))), (a_3, .inl (cA_4, 5, .inr (.inr (.inr (.inr g_83))))), (a_5, .inl (cA_6, 5, .inr (.inr (.inr (.inr g_70)))))]) [0, 1, 2, 3] (by decide) rfl
  have hK := hK.sub (tys' := [(cA_2, .object RX6), (cA_4, .object RX6), (cA_6, .object RX6)]) [0, 1, 2] rfl
  refine lv_aload_n hx hb dX8_init_79 rfl (lv_at hl 1 rfl) ?_
  refine va_get (D := (dC, dI)) (ci := 8) (v := .ref a_5) (C := RX8) (T := TX8) (N := 7) hx hb hts ik_Trial_RX8 hown hK hP 0 rfl rfl 2 (by decide) (hts (.fieldLink RX8 20 "PutBack$Trial" "backs" "[LPutBack$Text;") (by decide +kernel)) (fun _ h9 => h9) rfl dX8_init_80 ?_
  refine lv_iload_n hx hb dX8_init_83 rfl (lv_at hl 0 rfl) ?_
  refine va_new (ci := 6) (fs := [.null, .int 0]) (C := RX6) (T := TX6) (N := 2) hx hb hts ik_Trial_RX6 tyX6 tyX6_ok hown (hts (.classLink RX8 9 RX6) (by decide +kernel)) (hts (.instantiable RX6 2) (by decide +kernel)) (hts (.initialized RX6) (by decide +kernel)) hK hP hD hS hA rfl (fun j hj => by rcases (show j = 0 ∨ j = 1 by omega) with rfl | rfl <;> rfl) (Nat.le_of_ble_eq_true rfl) (Nat.le_of_ble_eq_true rfl) dX8_init_84 (fun a_84 H hP hD hS => ?_)
  refine W.widen (k := 29) (n := 766) (Nat.le_of_ble_eq_true rfl) (Nat.le_of_ble_eq_true rfl) ?_
  have hP : va_P (dC, dI) cls [(h0, .inr (8, [.ref a_1, .ref a_3, .ref a_5, .ref a_7, .ref a_9, .int 0, .int 0])), (a_1, .inl (cA_2, 5, .inr (.inr (.inr (.inr g_77))))), (a_3, .inl (cA_4, 5, .inr (.inr (.inr (.inr g_83))))), (a_5, .inl (cA_6, 5, .inr (.inr (.inr (.inr g_70))))), (a_84, .inr (6, [.null, .int 0]))] H := hP
  have hD : va_D A [(h0, .inr (8, [.ref a_1, .ref a_3, .ref a_5, .ref a_7, .ref a_9, .int 0, .int 0])), (a_1, .inl (cA_2, 5, .inr (.inr (.inr (.inr g_77))))), (a_3, .inl (cA_4, 5, .inr (.inr (.inr (.inr g_83))))), (a_5, .inl (cA_6, 5, .inr (.inr (.inr (.inr g_70))))), (a_84, .inr (6, [.null, .int 0]))] := hD
  refine lv_dup hx hb dX8_init_87 rfl ?_
  have hPc := hP.sub (ws' := [(a_84, .inr (6, [.null, .int 0]))]) [4] rfl
  have hDc := hD.sub (ws' := [(a_84, .inr (6, [.null, .int 0]))]) [4] (by decide) rfl
  have hKc := hK.sub (tys' := []) [] rfl
  have hFc := va_free (wc := [(a_84, .inr (6, [.null, .int 0]))]) hD hS hA [4] rfl
  refine va_callv (va_runIN (As := []) (rest := [.ref a_84, .int 3, .ref a_5]) ⟨hx, hb, hml, hown, hts⟩ (k_Text l dC dI H.size a_84) ⟨va_cnB 0 hts gk_Trial_27 rfl rfl rfl n_M_RX8_27_yX6_init_PutBack (hts (.initialized RX6) (by decide +kernel)) (by decide +kernel) ⟨Nat.le_of_ble_eq_true rfl, Nat.le_of_ble_eq_true rfl⟩, rfl, (hts (.instanceMethod yX6_init) (by decide +kernel))⟩ ⟨fun a U g mk q => by obtain ⟨q0, q1, qP, qK, qD⟩ := q; exact ⟨q0, q1, qP, va_K.moved (u := U) (U := U.calling g mk a) (Vm.Alike.refl U.vm) qK, qD⟩, fun U hU hW => ⟨rfl, by rw [hU], by rw [hU]; exact hPc, va_K.moved hW.alike hKc, hDc.weaken (fun _ _ _ _ => trivial)⟩⟩ rfl rfl hl.1 rfl (lv_room (Nat.le_of_ble_eq_true rfl)) dX8_init_88 ⟨Nat.le_of_ble_eq_true rfl, Nat.le_of_ble_eq_true rfl⟩) hS (fun q _ h => hFc q h) hFc (fun u t H1 locs ht hvm hw hB hz1 hk1 hS => ?_)
  obtain ⟨a_87, a_88, hP1, hK1, hD1⟩ := hB
  have hK : va_K (dC, dI) cls [(cA_2, .object RX6), (cA_4, .object RX6), (cA_6, .object RX6), (a_88, .byte)] s := hK.app (va_K.moved hvm.symm hK1)
  rw [ht] at hP1
  try dsimp only at hw
  obtain ⟨hP, hD⟩ := va_join (wr := [(h0, .inr (8, [.ref a_1, .ref a_3, .ref a_5, .ref a_7, .ref a_9, .int 0, .int 0])), (a_1, .inl (cA_2, 5, .inr (.inr (.inr (.inr g_77))))), (a_3, .inl (cA_4, 5, .inr (.inr (.inr (.inr g_83))))), (a_5, .inl (cA_6, 5, .inr (.inr (.inr (.inr g_70)))))]) (w1 := [(a_84, .inr (6, [.ref a_87, .int 0])), (a_87, .inl (a_88, 60, .inl (fun _ => 0)))]) hP hD [4] [0, 1, 2, 3] rfl rfl (by decide) (by decide) hk1 hFc hP1 hD1
  clear hk1 hz1 hPc hDc hFc hP1 hD1 hK1 hKc
  generalize H1 = H at hP hS ⊢
  have hP : va_P (dC, dI) cls [(h0, .inr (8, [.ref a_1, .ref a_3, .ref a_5, .ref a_7, .ref a_9, .int 0, .int 0])), (a_1, .inl (cA_2, 5, .inr (.inr (.inr (.inr g_77))))), (a_3, .inl (cA_4, 5, .inr (.inr (.inr (.inr g_83))))), (a_5, .inl (cA_6, 5, .inr (.inr (.inr (.inr g_70))))), (a_84, .inr (6, [.ref a_87, .int 0])), (a_87, .inl (a_88, 60, .inl (fun _ => 0)))] H := hP
  have hD : va_D A [(h0, .inr (8, [.ref a_1, .ref a_3, .ref a_5, .ref a_7, .ref a_9, .int 0, .int 0])), (a_1, .inl (cA_2, 5, .inr (.inr (.inr (.inr g_77))))), (a_3, .inl (cA_4, 5, .inr (.inr (.inr (.inr g_83))))), (a_5, .inl (cA_6, 5, .inr (.inr (.inr (.inr g_70))))), (a_84, .inr (6, [.ref a_87, .int 0])), (a_87, .inl (a_88, 60, .inl (fun _ => 0)))] := hD
  refine W.widen (k := 30) (n := 826) (by omega) (by omega) ?_
  refine va_astq hx hb hK hP hD hS 3 2 4 6 rfl rfl rfl rfl (by unfold vp_in; decide) dX8_init_91 (fun H locs hP hD hS => ?_)
  have hP : va_P (dC, dI) cls [(h0, .inr (8, [.ref a_1, .ref a_3, .ref a_5, .ref a_7, .ref a_9, .int 0, .int 0])), (a_1, .inl (cA_2, 5, .inr (.inr (.inr (.inr g_77))))), (a_3, .inl (cA_4, 5, .inr (.inr (.inr (.inr g_83))))), (a_5, .inl (cA_6, 5, .inr (.inr (.inr (.inr (va_up g_70 (3 : Int32).toNatClampNeg (some a_84))))))), (a_84, .inr (6, [.ref a_87, .int 0])), (a_87, .inl (a_88, 60, .inl (fun _ => 0)))] H := hP
  have hD : va_D A [(h0, .inr (8, [.ref a_1, .ref a_3, .ref a_5, .ref a_7, .ref a_9, .int 0, .int 0])), (a_1, .inl (cA_2, 5, .inr (.inr (.inr (.inr g_77))))), (a_3, .inl (cA_4, 5, .inr (.inr (.inr (.inr g_83))))), (a_5, .inl (cA_6, 5, .inr (.inr (.inr (.inr (va_up g_70 (3 : Int32).toNatClampNeg (some a_84))))))), (a_84, .inr (6, [.ref a_87, .int 0])), (a_87, .inl (a_88, 60, .inl (fun _ => 0)))] := hD
  generalize (va_up g_70 (3 : Int32).toNatClampNeg (some a_84)) = g_89 at hP hD
  have hP := hP.sub (ws' := [(h0, .inr (8, [.ref a_1, .ref a_3, .ref a_5, .ref a_7, .ref a_9, .int 0, .int 0])), (a_1, .inl (cA_2, 5, .inr (.inr (.inr (.inr g_77))))), (a_3, .inl (cA_4, 5, .inr (.inr (.inr (.inr g_83))))), (a_5, .inl (cA_6, 5, .inr (.inr (.inr (.inr g_89)))))]) [0, 1, 2, 3] rfl
  have hD := hD.sub (ws' := [(h0, .inr (8, [.ref a_1, .ref a_3, .ref a_5, .ref a_7, .ref a_9, .int 0, .int 0])), (a_1, .inl (cA_2, 5, .inr (.inr (.inr (.inr g_77))))), (a_3, .inl (cA_4, 5, .inr (.inr (.inr (.inr g_83))))), (a_5, .inl (cA_6, 5, .inr (.inr (.inr (.inr g_89)))))]) [0, 1, 2, 3] (by decide) rfl
  have hK := hK.sub (tys' := [(cA_2, .object RX6), (cA_4, .object RX6), (cA_6, .object RX6)]) [0, 1, 2] rfl
  refine lv_iinc (v := 4) (lv' := [(1, .int 4), (0, .ref h0)]) hx hb dX8_init_92 hl (k := 0) rfl (by decide) (by decide) rfl (fun ls hl => ?_)
  refine lv_goto (tgt := 48) hx hb dX8_init_95 (by decide) ?_
  refine lv_iload_n hx hb dX8_init_48 rfl (lv_at hl 0 rfl) ?_
  refine lv_iconst (v := 5) hx hb dX8_init_49 (by decide) ?_
  refine lv_icmp_ge (tgt := 98) hx hb dX8_init_50 (by decide) (fun c_90 => ?_) (fun c_90 => ?_)
  · exact (by revert c_90; decide : False).elim
  refine lv_aload_n hx hb dX8_init_53 rfl (lv_at hl 1 rfl) ?_
  refine va_get (D := (dC, dI)) (ci := 8) (v := .ref a_1) (C := RX8) (T := TX8) (N := 7) hx hb hts ik_Trial_RX8 hown hK hP 0 rfl rfl 0 (by decide) (hts (.fieldLink RX8 11 "PutBack$Trial" "sources" "[LPutBack$Text;") (by decide +kernel)) (fun _ h9 => h9) rfl dX8_init_54 ?_
  refine lv_iload_n hx hb dX8_init_57 rfl (lv_at hl 0 rfl) ?_
  refine va_new (ci := 6) (fs := [.null, .int 0]) (C := RX6) (T := TX6) (N := 2) hx hb hts ik_Trial_RX6 tyX6 tyX6_ok hown (hts (.classLink RX8 9 RX6) (by decide +kernel)) (hts (.instantiable RX6 2) (by decide +kernel)) (hts (.initialized RX6) (by decide +kernel)) hK hP hD hS hA rfl (fun j hj => by rcases (show j = 0 ∨ j = 1 by omega) with rfl | rfl <;> rfl) (Nat.le_of_ble_eq_true rfl) (Nat.le_of_ble_eq_true rfl) dX8_init_58 (fun a_91 H hP hD hS => ?_)
  refine W.widen (k := 31) (n := 828) (Nat.le_of_ble_eq_true rfl) (Nat.le_of_ble_eq_true rfl) ?_
  have hP : va_P (dC, dI) cls [(h0, .inr (8, [.ref a_1, .ref a_3, .ref a_5, .ref a_7, .ref a_9, .int 0, .int 0])), (a_1, .inl (cA_2, 5, .inr (.inr (.inr (.inr g_77))))), (a_3, .inl (cA_4, 5, .inr (.inr (.inr (.inr g_83))))), (a_5, .inl (cA_6, 5, .inr (.inr (.inr (.inr g_89))))), (a_91, .inr (6, [.null, .int 0]))] H := hP
  have hD : va_D A [(h0, .inr (8, [.ref a_1, .ref a_3, .ref a_5, .ref a_7, .ref a_9, .int 0, .int 0])), (a_1, .inl (cA_2, 5, .inr (.inr (.inr (.inr g_77))))), (a_3, .inl (cA_4, 5, .inr (.inr (.inr (.inr g_83))))), (a_5, .inl (cA_6, 5, .inr (.inr (.inr (.inr g_89))))), (a_91, .inr (6, [.null, .int 0]))] := hD
  refine lv_dup hx hb dX8_init_61 rfl ?_
  have hPc := hP.sub (ws' := [(a_91, .inr (6, [.null, .int 0]))]) [4] rfl
  have hDc := hD.sub (ws' := [(a_91, .inr (6, [.null, .int 0]))]) [4] (by decide) rfl
  have hKc := hK.sub (tys' := []) [] rfl
  have hFc := va_free (wc := [(a_91, .inr (6, [.null, .int 0]))]) hD hS hA [4] rfl
  refine va_callv (va_runIN (As := []) (rest := [.ref a_91, .int 4, .ref a_1]) ⟨hx, hb, hml, hown, hts⟩ (k_Text l dC dI H.size a_91) ⟨va_cnB 0 hts gk_Trial_27 rfl rfl rfl n_M_RX8_27_yX6_init_PutBack (hts (.initialized RX6) (by decide +kernel)) (by decide +kernel) ⟨Nat.le_of_ble_eq_true rfl, Nat.le_of_ble_eq_true rfl⟩, rfl, (hts (.instanceMethod yX6_init) (by decide +kernel))⟩ ⟨fun a U g mk q => by obtain ⟨q0, q1, qP, qK, qD⟩ := q; exact ⟨q0, q1, qP, va_K.moved (u := U) (U := U.calling g mk a) (Vm.Alike.refl U.vm) qK, qD⟩, fun U hU hW => ⟨rfl, by rw [hU], by rw [hU]; exact hPc, va_K.moved hW.alike hKc, hDc.weaken (fun _ _ _ _ => trivial)⟩⟩ rfl rfl hl.1 rfl (lv_room (Nat.le_of_ble_eq_true rfl)) dX8_init_62 ⟨Nat.le_of_ble_eq_true rfl, Nat.le_of_ble_eq_true rfl⟩) hS (fun q _ h => hFc q h) hFc (fun u t H1 locs ht hvm hw hB hz1 hk1 hS => ?_)
  obtain ⟨a_94, a_95, hP1, hK1, hD1⟩ := hB
  have hK : va_K (dC, dI) cls [(cA_2, .object RX6), (cA_4, .object RX6), (cA_6, .object RX6), (a_95, .byte)] s := hK.app (va_K.moved hvm.symm hK1)
  rw [ht] at hP1
  try dsimp only at hw
  obtain ⟨hP, hD⟩ := va_join (wr := [(h0, .inr (8, [.ref a_1, .ref a_3, .ref a_5, .ref a_7, .ref a_9, .int 0, .int 0])), (a_1, .inl (cA_2, 5, .inr (.inr (.inr (.inr g_77))))), (a_3, .inl (cA_4, 5, .inr (.inr (.inr (.inr g_83))))), (a_5, .inl (cA_6, 5, .inr (.inr (.inr (.inr g_89)))))]) (w1 := [(a_91, .inr (6, [.ref a_94, .int 0])), (a_94, .inl (a_95, 60, .inl (fun _ => 0)))]) hP hD [4] [0, 1, 2, 3] rfl rfl (by decide) (by decide) hk1 hFc hP1 hD1
  clear hk1 hz1 hPc hDc hFc hP1 hD1 hK1 hKc
  generalize H1 = H at hP hS ⊢
  have hP : va_P (dC, dI) cls [(h0, .inr (8, [.ref a_1, .ref a_3, .ref a_5, .ref a_7, .ref a_9, .int 0, .int 0])), (a_1, .inl (cA_2, 5, .inr (.inr (.inr (.inr g_77))))), (a_3, .inl (cA_4, 5, .inr (.inr (.inr (.inr g_83))))), (a_5, .inl (cA_6, 5, .inr (.inr (.inr (.inr g_89))))), (a_91, .inr (6, [.ref a_94, .int 0])), (a_94, .inl (a_95, 60, .inl (fun _ => 0)))] H := hP
  have hD : va_D A [(h0, .inr (8, [.ref a_1, .ref a_3, .ref a_5, .ref a_7, .ref a_9, .int 0, .int 0])), (a_1, .inl (cA_2, 5, .inr (.inr (.inr (.inr g_77))))), (a_3, .inl (cA_4, 5, .inr (.inr (.inr (.inr g_83))))), (a_5, .inl (cA_6, 5, .inr (.inr (.inr (.inr g_89))))), (a_91, .inr (6, [.ref a_94, .int 0])), (a_94, .inl (a_95, 60, .inl (fun _ => 0)))] := hD
  refine W.widen (k := 32) (n := 888) (by omega) (by omega) ?_
  refine va_astq hx hb hK hP hD hS 1 0 4 6 rfl rfl rfl rfl (by unfold vp_in; decide) dX8_init_65 (fun H locs hP hD hS => ?_)
  have hP : va_P (dC, dI) cls [(h0, .inr (8, [.ref a_1, .ref a_3, .ref a_5, .ref a_7, .ref a_9, .int 0, .int 0])), (a_1, .inl (cA_2, 5, .inr (.inr (.inr (.inr (va_up g_77 (4 : Int32).toNatClampNeg (some a_91))))))), (a_3, .inl (cA_4, 5, .inr (.inr (.inr (.inr g_83))))), (a_5, .inl (cA_6, 5, .inr (.inr (.inr (.inr g_89))))), (a_91, .inr (6, [.ref a_94, .int 0])), (a_94, .inl (a_95, 60, .inl (fun _ => 0)))] H := hP
  have hD : va_D A [(h0, .inr (8, [.ref a_1, .ref a_3, .ref a_5, .ref a_7, .ref a_9, .int 0, .int 0])), (a_1, .inl (cA_2, 5, .inr (.inr (.inr (.inr (va_up g_77 (4 : Int32).toNatClampNeg (some a_91))))))), (a_3, .inl (cA_4, 5, .inr (.inr (.inr (.inr g_83))))), (a_5, .inl (cA_6, 5, .inr (.inr (.inr (.inr g_89))))), (a_91, .inr (6, [.ref a_94, .int 0])), (a_94, .inl (a_95, 60, .inl (fun _ => 0)))] := hD
  generalize (va_up g_77 (4 : Int32).toNatClampNeg (some a_91)) = g_96 at hP hD
  have hP := hP.sub (ws' := [(h0, .inr (8, [.ref a_1, .ref a_3, .ref a_5, .ref a_7, .ref a_9, .int 0, .int 0])), (a_1, .inl (cA_2, 5, .inr (.inr (.inr (.inr g_96))))), (a_3, .inl (cA_4, 5, .inr (.inr (.inr (.inr g_83))))), (a_5, .inl (cA_6, 5, .inr (.inr (.inr (.inr g_89)))))]) [0, 1, 2, 3] rfl
  have hD := hD.sub (ws' := [(h0, .inr (8, [.ref a_1, .ref a_3, .ref a_5, .ref a_7, .ref a_9, .int 0, .int 0])), (a_1, .inl (cA_2, 5, .inr (.inr (.inr (.inr g_96))))), (a_3, .inl (cA_4, 5, .inr (.inr (.inr (.inr g_83))))), (a_5, .inl (cA_6, 5, .inr (.inr (.inr (.inr g_89)))))]) [0, 1, 2, 3] (by decide) rfl
  have hK := hK.sub (tys' := [(cA_2, .object RX6), (cA_4, .object RX6), (cA_6, .object RX6)]) [0, 1, 2] rfl
  refine lv_aload_n hx hb dX8_init_66 rfl (lv_at hl 1 rfl) ?_
  refine va_get (D := (dC, dI)) (ci := 8) (v := .ref a_3) (C := RX8) (T := TX8) (N := 7) hx hb hts ik_Trial_RX8 hown hK hP 0 rfl rfl 1 (by decide) (hts (.fieldLink RX8 17 "PutBack$Trial" "views" "[LPutBack$Text;") (by decide +kernel)) (fun _ h9 => h9) rfl dX8_init_67 ?_
  refine lv_iload_n hx hb dX8_init_70 rfl (lv_at hl 0 rfl) ?_
  refine va_new (ci := 6) (fs := [.null, .int 0]) (C := RX6) (T := TX6) (N := 2) hx hb hts ik_Trial_RX6 tyX6 tyX6_ok hown (hts (.classLink RX8 9 RX6) (by decide +kernel)) (hts (.instantiable RX6 2) (by decide +kernel)) (hts (.initialized RX6) (by decide +kernel)) hK hP hD hS hA rfl (fun j hj => by rcases (show j = 0 ∨ j = 1 by omega) with rfl | rfl <;> rfl) (Nat.le_of_ble_eq_true rfl) (Nat.le_of_ble_eq_true rfl) dX8_init_71 (fun a_97 H hP hD hS => ?_)
  refine W.widen (k := 33) (n := 890) (Nat.le_of_ble_eq_true rfl) (Nat.le_of_ble_eq_true rfl) ?_
  have hP : va_P (dC, dI) cls [(h0, .inr (8, [.ref a_1, .ref a_3, .ref a_5, .ref a_7, .ref a_9, .int 0, .int 0])), (a_1, .inl (cA_2, 5, .inr (.inr (.inr (.inr g_96))))), (a_3, .inl (cA_4, 5, .inr (.inr (.inr (.inr g_83))))), (a_5, .inl (cA_6, 5, .inr (.inr (.inr (.inr g_89))))), (a_97, .inr (6, [.null, .int 0]))] H := hP
  have hD : va_D A [(h0, .inr (8, [.ref a_1, .ref a_3, .ref a_5, .ref a_7, .ref a_9, .int 0, .int 0])), (a_1, .inl (cA_2, 5, .inr (.inr (.inr (.inr g_96))))), (a_3, .inl (cA_4, 5, .inr (.inr (.inr (.inr g_83))))), (a_5, .inl (cA_6, 5, .inr (.inr (.inr (.inr g_89))))), (a_97, .inr (6, [.null, .int 0]))] := hD
  refine lv_dup hx hb dX8_init_74 rfl ?_
  have hPc := hP.sub (ws' := [(a_97, .inr (6, [.null, .int 0]))]) [4] rfl
  have hDc := hD.sub (ws' := [(a_97, .inr (6, [.null, .int 0]))]) [4] (by decide) rfl
  have hKc := hK.sub (tys' := []) [] rfl
  have hFc := va_free (wc := [(a_97, .inr (6, [.null, .int 0]))]) hD hS hA [4] rfl
  refine va_callv (va_runIN (As := []) (rest := [.ref a_97, .int 4, .ref a_3]) ⟨hx, hb, hml, hown, hts⟩ (k_Text l dC dI H.size a_97) ⟨va_cnB 0 hts gk_Trial_27 rfl rfl rfl n_M_RX8_27_yX6_init_PutBack (hts (.initialized RX6) (by decide +kernel)) (by decide +kernel) ⟨Nat.le_of_ble_eq_true rfl, Nat.le_of_ble_eq_true rfl⟩, rfl, (hts (.instanceMethod yX6_init) (by decide +kernel))⟩ ⟨fun a U g mk q => by obtain ⟨q0, q1, qP, qK, qD⟩ := q; exact ⟨q0, q1, qP, va_K.moved (u := U) (U := U.calling g mk a) (Vm.Alike.refl U.vm) qK, qD⟩, fun U hU hW => ⟨rfl, by rw [hU], by rw [hU]; exact hPc, va_K.moved hW.alike hKc, hDc.weaken (fun _ _ _ _ => trivial)⟩⟩ rfl rfl hl.1 rfl (lv_room (Nat.le_of_ble_eq_true rfl)) dX8_init_75 ⟨Nat.le_of_ble_eq_true rfl, Nat.le_of_ble_eq_true rfl⟩) hS (fun q _ h => hFc q h) hFc (fun u t H1 locs ht hvm hw hB hz1 hk1 hS => ?_)
  obtain ⟨a_100, a_101, hP1, hK1, hD1⟩ := hB
  have hK : va_K (dC, dI) cls [(cA_2, .object RX6), (cA_4, .object RX6), (cA_6, .object RX6), (a_101, .byte)] s := hK.app (va_K.moved hvm.symm hK1)
  rw [ht] at hP1
  try dsimp only at hw
  obtain ⟨hP, hD⟩ := va_join (wr := [(h0, .inr (8, [.ref a_1, .ref a_3, .ref a_5, .ref a_7, .ref a_9, .int 0, .int 0])), (a_1, .inl (cA_2, 5, .inr (.inr (.inr (.inr g_96))))), (a_3, .inl (cA_4, 5, .inr (.inr (.inr (.inr g_83))))), (a_5, .inl (cA_6, 5, .inr (.inr (.inr (.inr g_89)))))]) (w1 := [(a_97, .inr (6, [.ref a_100, .int 0])), (a_100, .inl (a_101, 60, .inl (fun _ => 0)))]) hP hD [4] [0, 1, 2, 3] rfl rfl (by decide) (by decide) hk1 hFc hP1 hD1
  clear hk1 hz1 hPc hDc hFc hP1 hD1 hK1 hKc
  generalize H1 = H at hP hS ⊢
  have hP : va_P (dC, dI) cls [(h0, .inr (8, [.ref a_1, .ref a_3, .ref a_5, .ref a_7, .ref a_9, .int 0, .int 0])), (a_1, .inl (cA_2, 5, .inr (.inr (.inr (.inr g_96))))), (a_3, .inl (cA_4, 5, .inr (.inr (.inr (.inr g_83))))), (a_5, .inl (cA_6, 5, .inr (.inr (.inr (.inr g_89))))), (a_97, .inr (6, [.ref a_100, .int 0])), (a_100, .inl (a_101, 60, .inl (fun _ => 0)))] H := hP
  have hD : va_D A [(h0, .inr (8, [.ref a_1, .ref a_3, .ref a_5, .ref a_7, .ref a_9, .int 0, .int 0])), (a_1, .inl (cA_2, 5, .inr (.inr (.inr (.inr g_96))))), (a_3, .inl (cA_4, 5, .inr (.inr (.inr (.inr g_83))))), (a_5, .inl (cA_6, 5, .inr (.inr (.inr (.inr g_89))))), (a_97, .inr (6, [.ref a_100, .int 0])), (a_100, .inl (a_101, 60, .inl (fun _ => 0)))] := hD
  refine W.widen (k := 34) (n := 950) (by omega) (by omega) ?_
  refine va_astq hx hb hK hP hD hS 2 1 4 6 rfl rfl rfl rfl (by unfold vp_in; decide) dX8_init_78 (fun H locs hP hD hS => ?_)
  have hP : va_P (dC, dI) cls [(h0, .inr (8, [.ref a_1, .ref a_3, .ref a_5, .ref a_7, .ref a_9, .int 0, .int 0])), (a_1, .inl (cA_2, 5, .inr (.inr (.inr (.inr g_96))))), (a_3, .inl (cA_4, 5, .inr (.inr (.inr (.inr (va_up g_83 (4 : Int32).toNatClampNeg (some a_97))))))), (a_5, .inl (cA_6, 5, .inr (.inr (.inr (.inr g_89))))), (a_97, .inr (6, [.ref a_100, .int 0])), (a_100, .inl (a_101, 60, .inl (fun _ => 0)))] H := hP
  have hD : va_D A [(h0, .inr (8, [.ref a_1, .ref a_3, .ref a_5, .ref a_7, .ref a_9, .int 0, .int 0])), (a_1, .inl (cA_2, 5, .inr (.inr (.inr (.inr g_96))))), (a_3, .inl (cA_4, 5, .inr (.inr (.inr (.inr (va_up g_83 (4 : Int32).toNatClampNeg (some a_97))))))), (a_5, .inl (cA_6, 5, .inr (.inr (.inr (.inr g_89))))), (a_97, .inr (6, [.ref a_100, .int 0])), (a_100, .inl (a_101, 60, .inl (fun _ => 0)))] := hD
  generalize (va_up g_83 (4 : Int32).toNatClampNeg (some a_97)) = g_102 at hP hD
  have hP := hP.sub (ws' := [(h0, .inr (8, [.ref a_1, .ref a_3, .ref a_5, .ref a_7, .ref a_9, .int 0, .int 0])), (a_1, .inl (cA_2, 5, .inr (.inr (.inr (.inr g_96))))), (a_3, .inl (cA_4, 5, .inr (.inr (.inr (.inr g_102))))), (a_5, .inl (cA_6, 5, .inr (.inr (.inr (.inr g_89)))))]) [0, 1, 2, 3] rfl
  have hD := hD.sub (ws' := [(h0, .inr (8, [.ref a_1, .ref a_3, .ref a_5, .ref a_7, .ref a_9, .int 0, .int 0])), (a_1, .inl (cA_2, 5, .inr (.inr (.inr (.inr g_96))))), (a_3, .inl (cA_4, 5, .inr (.inr (.inr (.inr g_102))))), (a_5, .inl (cA_6, 5, .inr (.inr (.inr (.inr g_89)))))]) [0, 1, 2, 3] (by decide) rfl
  have hK := hK.sub (tys' := [(cA_2, .object RX6), (cA_4, .object RX6), (cA_6, .object RX6)]) [0, 1, 2] rfl
  refine lv_aload_n hx hb dX8_init_79 rfl (lv_at hl 1 rfl) ?_
  refine va_get (D := (dC, dI)) (ci := 8) (v := .ref a_5) (C := RX8) (T := TX8) (N := 7) hx hb hts ik_Trial_RX8 hown hK hP 0 rfl rfl 2 (by decide) (hts (.fieldLink RX8 20 "PutBack$Trial" "backs" "[LPutBack$Text;") (by decide +kernel)) (fun _ h9 => h9) rfl dX8_init_80 ?_
  refine lv_iload_n hx hb dX8_init_83 rfl (lv_at hl 0 rfl) ?_
  refine va_new (ci := 6) (fs := [.null, .int 0]) (C := RX6) (T := TX6) (N := 2) hx hb hts ik_Trial_RX6 tyX6 tyX6_ok hown (hts (.classLink RX8 9 RX6) (by decide +kernel)) (hts (.instantiable RX6 2) (by decide +kernel)) (hts (.initialized RX6) (by decide +kernel)) hK hP hD hS hA rfl (fun j hj => by rcases (show j = 0 ∨ j = 1 by omega) with rfl | rfl <;> rfl) (Nat.le_of_ble_eq_true rfl) (Nat.le_of_ble_eq_true rfl) dX8_init_84 (fun a_103 H hP hD hS => ?_)
  refine W.widen (k := 35) (n := 952) (Nat.le_of_ble_eq_true rfl) (Nat.le_of_ble_eq_true rfl) ?_
  have hP : va_P (dC, dI) cls [(h0, .inr (8, [.ref a_1, .ref a_3, .ref a_5, .ref a_7, .ref a_9, .int 0, .int 0])), (a_1, .inl (cA_2, 5, .inr (.inr (.inr (.inr g_96))))), (a_3, .inl (cA_4, 5, .inr (.inr (.inr (.inr g_102))))), (a_5, .inl (cA_6, 5, .inr (.inr (.inr (.inr g_89))))), (a_103, .inr (6, [.null, .int 0]))] H := hP
  have hD : va_D A [(h0, .inr (8, [.ref a_1, .ref a_3, .ref a_5, .ref a_7, .ref a_9, .int 0, .int 0])), (a_1, .inl (cA_2, 5, .inr (.inr (.inr (.inr g_96))))), (a_3, .inl (cA_4, 5, .inr (.inr (.inr (.inr g_102))))), (a_5, .inl (cA_6, 5, .inr (.inr (.inr (.inr g_89))))), (a_103, .inr (6, [.null, .int 0]))] := hD
  refine lv_dup hx hb dX8_init_87 rfl ?_
  have hPc := hP.sub (ws' := [(a_103, .inr (6, [.null, .int 0]))]) [4] rfl
  have hDc := hD.sub (ws' := [(a_103, .inr (6, [.null, .int 0]))]) [4] (by decide) rfl
  have hKc := hK.sub (tys' := []) [] rfl
  have hFc := va_free (wc := [(a_103, .inr (6, [.null, .int 0]))]) hD hS hA [4] rfl
  refine va_callv (va_runIN (As := []) (rest := [.ref a_103, .int 4, .ref a_5]) ⟨hx, hb, hml, hown, hts⟩ (k_Text l dC dI H.size a_103) ⟨va_cnB 0 hts gk_Trial_27 rfl rfl rfl n_M_RX8_27_yX6_init_PutBack (hts (.initialized RX6) (by decide +kernel)) (by decide +kernel) ⟨Nat.le_of_ble_eq_true rfl, Nat.le_of_ble_eq_true rfl⟩, rfl, (hts (.instanceMethod yX6_init) (by decide +kernel))⟩ ⟨fun a U g mk q => by obtain ⟨q0, q1, qP, qK, qD⟩ := q; exact ⟨q0, q1, qP, va_K.moved (u := U) (U := U.calling g mk a) (Vm.Alike.refl U.vm) qK, qD⟩, fun U hU hW => ⟨rfl, by rw [hU], by rw [hU]; exact hPc, va_K.moved hW.alike hKc, hDc.weaken (fun _ _ _ _ => trivial)⟩⟩ rfl rfl hl.1 rfl (lv_room (Nat.le_of_ble_eq_true rfl)) dX8_init_88 ⟨Nat.le_of_ble_eq_true rfl, Nat.le_of_ble_eq_true rfl⟩) hS (fun q _ h => hFc q h) hFc (fun u t H1 locs ht hvm hw hB hz1 hk1 hS => ?_)
  obtain ⟨a_106, a_107, hP1, hK1, hD1⟩ := hB
  have hK : va_K (dC, dI) cls [(cA_2, .object RX6), (cA_4, .object RX6), (cA_6, .object RX6), (a_107, .byte)] s := hK.app (va_K.moved hvm.symm hK1)
  rw [ht] at hP1
  try dsimp only at hw
  obtain ⟨hP, hD⟩ := va_join (wr := [(h0, .inr (8, [.ref a_1, .ref a_3, .ref a_5, .ref a_7, .ref a_9, .int 0, .int 0])), (a_1, .inl (cA_2, 5, .inr (.inr (.inr (.inr g_96))))), (a_3, .inl (cA_4, 5, .inr (.inr (.inr (.inr g_102))))), (a_5, .inl (cA_6, 5, .inr (.inr (.inr (.inr g_89)))))]) (w1 := [(a_103, .inr (6, [.ref a_106, .int 0])), (a_106, .inl (a_107, 60, .inl (fun _ => 0)))]) hP hD [4] [0, 1, 2, 3] rfl rfl (by decide) (by decide) hk1 hFc hP1 hD1
  clear hk1 hz1 hPc hDc hFc hP1 hD1 hK1 hKc
  generalize H1 = H at hP hS ⊢
  have hP : va_P (dC, dI) cls [(h0, .inr (8, [.ref a_1, .ref a_3, .ref a_5, .ref a_7, .ref a_9, .int 0, .int 0])), (a_1, .inl (cA_2, 5, .inr (.inr (.inr (.inr g_96))))), (a_3, .inl (cA_4, 5, .inr (.inr (.inr (.inr g_102))))), (a_5, .inl (cA_6, 5, .inr (.inr (.inr (.inr g_89))))), (a_103, .inr (6, [.ref a_106, .int 0])), (a_106, .inl (a_107, 60, .inl (fun _ => 0)))] H := hP
  have hD : va_D A [(h0, .inr (8, [.ref a_1, .ref a_3, .ref a_5, .ref a_7, .ref a_9, .int 0, .int 0])), (a_1, .inl (cA_2, 5, .inr (.inr (.inr (.inr g_96))))), (a_3, .inl (cA_4, 5, .inr (.inr (.inr (.inr g_102))))), (a_5, .inl (cA_6, 5, .inr (.inr (.inr (.inr g_89))))), (a_103, .inr (6, [.ref a_106, .int 0])), (a_106, .inl (a_107, 60, .inl (fun _ => 0)))] := hD
  refine W.widen (k := 36) (n := 1012) (by omega) (by omega) ?_
  refine va_astq hx hb hK hP hD hS 3 2 4 6 rfl rfl rfl rfl (by unfold vp_in; decide) dX8_init_91 (fun H locs hP hD hS => ?_)
  have hP : va_P (dC, dI) cls [(h0, .inr (8, [.ref a_1, .ref a_3, .ref a_5, .ref a_7, .ref a_9, .int 0, .int 0])), (a_1, .inl (cA_2, 5, .inr (.inr (.inr (.inr g_96))))), (a_3, .inl (cA_4, 5, .inr (.inr (.inr (.inr g_102))))), (a_5, .inl (cA_6, 5, .inr (.inr (.inr (.inr (va_up g_89 (4 : Int32).toNatClampNeg (some a_103))))))), (a_103, .inr (6, [.ref a_106, .int 0])), (a_106, .inl (a_107, 60, .inl (fun _ => 0)))] H := hP
  have hD : va_D A [(h0, .inr (8, [.ref a_1, .ref a_3, .ref a_5, .ref a_7, .ref a_9, .int 0, .int 0])), (a_1, .inl (cA_2, 5, .inr (.inr (.inr (.inr g_96))))), (a_3, .inl (cA_4, 5, .inr (.inr (.inr (.inr g_102))))), (a_5, .inl (cA_6, 5, .inr (.inr (.inr (.inr (va_up g_89 (4 : Int32).toNatClampNeg (some a_103))))))), (a_103, .inr (6, [.ref a_106, .int 0])), (a_106, .inl (a_107, 60, .inl (fun _ => 0)))] := hD
  generalize (va_up g_89 (4 : Int32).toNatClampNeg (some a_103)) = g_108 at hP hD
  have hP := hP.sub (ws' := [(h0, .inr (8, [.ref a_1, .ref a_3, .ref a_5, .ref a_7, .ref a_9, .int 0, .int 0])), (a_1, .inl (cA_2, 5, .inr (.inr (.inr (.inr g_96))))), (a_3, .inl (cA_4, 5, .inr (.inr (.inr (.inr g_102))))), (a_5, .inl (cA_6, 5, .inr (.inr (.inr (.inr g_108)))))]) [0, 1, 2, 3] rfl
  have hD := hD.sub (ws' := [(h0, .inr (8, [.ref a_1, .ref a_3, .ref a_5, .ref a_7, .ref a_9, .int 0, .int 0])), (a_1, .inl (cA_2, 5, .inr (.inr (.inr (.inr g_96))))), (a_3, .inl (cA_4, 5, .inr (.inr (.inr (.inr g_102))))), (a_5, .inl (cA_6, 5, .inr (.inr (.inr (.inr g_108)))))]) [0, 1, 2, 3] (by decide) rfl
  have hK := hK.sub (tys' := [(cA_2, .object RX6), (cA_4, .object RX6), (cA_6, .object RX6)]) [0, 1, 2] rfl
  refine lv_iinc (v := 5) (lv' := [(1, .int 5), (0, .ref h0)]) hx hb dX8_init_92 hl (k := 0) rfl (by decide) (by decide) rfl (fun ls hl => ?_)
  refine lv_goto (tgt := 48) hx hb dX8_init_95 (by decide) ?_
  refine lv_iload_n hx hb dX8_init_48 rfl (lv_at hl 0 rfl) ?_
  refine lv_iconst (v := 5) hx hb dX8_init_49 (by decide) ?_
  refine lv_icmp_ge (tgt := 98) hx hb dX8_init_50 (by decide) (fun c_109 => ?_) (fun c_109 => ?_)
  rotate_left
  · exact (by revert c_109; decide : False).elim
  have hK9 := hK.sub (tys' := []) [] rfl
  have hP9 := hP.sub (ws' := []) [] rfl
  have hD9 := hD.sub (ws' := []) [] (by decide) rfl
  exact W.vret hx hb hr (fun t ht hW => ⟨⟨(), rfl, trivial, by rw [ht]; exact hP9, va_K.moved hW.alike hK9, hD9⟩, hS.F ht⟩) hS.2.2 dX8_init_98
