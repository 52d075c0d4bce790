set_option maxHeartbeats 4000000 in
theorem law_tail {p : Program} {e : Env} {s : State} {m : MethodId} {below : List Frame} {meth : Method} {c : Code} (l : Launch) {b : Nat} {xs : Nat → Int32} (C0 : lw_At p s m meth c b 6 xs) {H : Heap} {locs : List Loc} {ls : Array Slot} {cells slots : Nat} (hS : va_S (fun q : Nat => s.heap.size ≤ q) s.heap H locs) (hc : cells ≤ 600000) (hs : slots ≤ 7302250) (hl : lv_has ls 4 [(0, .ref b), (3, .int 0)]) : W p l e room_1 s m #[Value.ref b] below meth c H locs cells slots (lw_Z below #[Value.ref b] s) (F0 m 1218 ls []) := by
  obtain ⟨hx, hb, hr, hml, hown0, hts0, hX, hbl, hlocks, hgv⟩ := id C0
  have hbA : ¬ (fun q : Nat => s.heap.size ≤ q) b := Nat.not_le.mpr hbl
  refine lv_iinc (v := 6) (lv' := [(3, .int 6), (0, .ref b)]) hx hb dL_law_1218 hl (k := 1) rfl (by decide) (by decide) rfl (fun ls hl => ?_)
  refine lv_goto (tgt := 18) hx hb dL_law_1221 (by decide) ?_
  refine lv_iload_n hx hb dL_law_18 rfl (lv_at hl 0 rfl) ?_
  refine lv_aload_n hx hb dL_law_19 rfl (lv_at hl 1 rfl) ?_
  refine va_slen hx hb hX hbl hbA hS dL_law_20 ?_
  refine lv_bipush (v := 6) hx hb dL_law_21 (by decide) ?_
  refine lv_isub hx hb dL_law_23 ?_
  refine lv_icmp_gt (tgt := 1224) hx hb dL_law_24 (by decide) (fun c_1 => ?_) (fun c_1 => ?_)
  · refine lv_iconst (v := 1) hx hb dL_law_1224 (by decide) ?_
    refine va_forget (fun q hq => hS.2.2 q hq) ?_
    refine W.widen (k := 600000) (n := 7302250) hc hs ?_
    exact lw_ret hx hb hr hlocks dL_law_1225
  · exact (by revert c_1; decide : False).elim
theorem gcase_0_13g : GoodIn lwS wk_feed := goodIn_r _ [189, 190, 191, 192, 193, 194, 195, 196, 197, 198, 57, 58, 59, 60, 61, 62, 63, 64, 65, 66, 67, 68, 69, 70, 118, 119, 120, 121, 122, 123] (by decide +kernel) (by decide +kernel)
theorem gcase_0_13 : GoodIn lwS (wsV RL 13 RX11 yX11_feed wk_feed) := goodIn_app (goodIn_r _ [199, 200, 201, 202] (by decide +kernel) (by decide +kernel)) gcase_0_13g
theorem gcase_0_17g : GoodIn lwS wm_feed := goodIn_r _ [203, 204, 205, 206, 124, 125, 126, 127, 128, 129, 130, 131, 132, 133, 134, 135, 136, 137, 138, 139, 140, 141, 142, 143, 144, 145, 146, 147, 148, 149, 150, 151, 152, 153, 154, 155, 156, 157, 158, 159, 160, 161, 162, 163, 164, 165, 166, 167, 168, 169, 170, 171, 172, 173, 174, 175, 176, 177, 178, 179, 180, 181, 182, 183, 184, 185, 186, 187, 188] (by decide +kernel) (by decide +kernel)
theorem gcase_0_17 : GoodIn lwS (wsV RL 17 RX12 yX12_feed wm_feed) := goodIn_app (goodIn_r _ [207, 208, 209, 210] (by decide +kernel) (by decide +kernel)) gcase_0_17g
set_option maxHeartbeats 4000000 in
set_option maxRecDepth 100000 in
theorem case_0 {p : Program} {e : Env} {s : State} {m : MethodId} {below : List Frame} {meth : Method} {c : Code} (l : Launch) {b : Nat} {xs : Nat → Int32} (C0 : lw_At p s m meth c b 6 xs) (dC : Nat → ClassId) (dI : Nat → Nat → Nat) (mh0 : Nat) (xh0 : Nat) (xsl : Nat) (xwalker_ : Nat) (xrd : Nat) (xmachine_ : Nat) (xtrial_ : Nat) (xdk : Nat) (xlenses_ : Nat) (xtp : Nat) (xnames_ : Nat) (xquoted_ : Nat) (xlinks_ : Nat) (xwalker2_ : Nat) (xcI : ClassId) (xfA : Nat → Int32) (ma1 : Nat) (ma2 : Nat) (ma3 : Nat) (ma4 : Nat) (ma5 : Nat) (ma7 : Nat) (ma8 : Nat) (ma10 : Nat) (ma11 : Nat) (ma12 : Nat) (ma13 : Nat) (ma15 : Nat) (ma16 : Nat) (ma17 : Nat) (ma18 : Nat) (ma19 : Nat) (ma20 : Nat) (ma21 : Nat) (ma22 : Nat) (ma24 : Nat) (ma26 : Nat) (ma27 : Nat) (ma29 : Nat) (ma30 : Nat) (ma31 : Nat) (ma32 : Nat) (ma33 : Nat) (ma35 : Nat) (ma36 : Nat) (ma38 : Nat) (ma50 : Nat) (ma51 : Nat) (ma54 : Nat) (ma55 : Nat) (ma57 : Nat) (ma58 : Nat) (ma59 : Nat) (ma60 : Nat) (ma64 : Nat) (mcB : ClassId) {H : Heap} {locs : List Loc} {ls : Array Slot} (hK : va_K (dC, dI) cls [(xcI, .int), (mcB, .byte)] s) (hP : va_P (dC, dI) cls [(xh0, .inr (11, [.ref xsl, .ref xwalker_, .ref xrd, .ref xmachine_, .ref xtrial_, .ref xdk])), (xrd, .inr (4, [.ref xlenses_, .int 0, .int 0, .int 0, .int (-1), .int (-1), .ref xtp, .ref xnames_, .ref xquoted_, .ref xlinks_, .ref xwalker2_, .int 0, .int 0, .int 0])), (xtp, .inl (xcI, 600, .inl xfA)), (mh0, .inr (12, [.int 0, .ref ma1, .ref ma2, .ref ma3, .ref ma4, .ref ma5, .int 0, .ref ma7, .ref ma8, .int 0, .ref ma10, .ref ma11, .ref ma12, .ref ma13, .int 0, .ref ma15, .ref ma16, .ref ma17, .ref ma18, .ref ma19, .ref ma20, .ref ma21, .ref ma22, .int 0, .ref ma24, .int 0, .ref ma26, .ref ma27, .int 0, .ref ma29, .ref ma30, .ref ma31, .ref ma32, .ref ma33, .int 0, .ref ma35, .ref ma36, .int 0, .ref ma38, .int 0, .int 0, .int 0, .int 0, .int 0, .long 0, .int 0, .int 0, .int (-1), .int (-1), .int 0, .ref ma50, .ref ma51, .int 0, .int 0, .ref ma54, .ref ma55, .int (-1), .ref ma57, .ref ma58, .ref ma59, .ref ma60, .int 0, .int 0, .int 0, .ref ma64])), (ma38, .inl (mcB, 600, .inl (fun _ => 0)))] H) (hD : va_D (fun q : Nat => s.heap.size ≤ q) [(xh0, .inr (11, [.ref xsl, .ref xwalker_, .ref xrd, .ref xmachine_, .ref xtrial_, .ref xdk])), (xrd, .inr (4, [.ref xlenses_, .int 0, .int 0, .int 0, .int (-1), .int (-1), .ref xtp, .ref xnames_, .ref xquoted_, .ref xlinks_, .ref xwalker2_, .int 0, .int 0, .int 0])), (xtp, .inl (xcI, 600, .inl xfA)), (mh0, .inr (12, [.int 0, .ref ma1, .ref ma2, .ref ma3, .ref ma4, .ref ma5, .int 0, .ref ma7, .ref ma8, .int 0, .ref ma10, .ref ma11, .ref ma12, .ref ma13, .int 0, .ref ma15, .ref ma16, .ref ma17, .ref ma18, .ref ma19, .ref ma20, .ref ma21, .ref ma22, .int 0, .ref ma24, .int 0, .ref ma26, .ref ma27, .int 0, .ref ma29, .ref ma30, .ref ma31, .ref ma32, .ref ma33, .int 0, .ref ma35, .ref ma36, .int 0, .ref ma38, .int 0, .int 0, .int 0, .int 0, .int 0, .long 0, .int 0, .int 0, .int (-1), .int (-1), .int 0, .ref ma50, .ref ma51, .int 0, .int 0, .ref ma54, .ref ma55, .int (-1), .ref ma57, .ref ma58, .ref ma59, .ref ma60, .int 0, .int 0, .int 0, .ref ma64])), (ma38, .inl (mcB, 600, .inl (fun _ => 0)))]) (hS : va_S (fun q : Nat => s.heap.size ≤ q) s.heap H locs) (hl : lv_has ls 4 [(3, .int 0), (2, .ref mh0), (1, .ref xh0), (0, .ref b)]) : W p l e room_1 s m #[Value.ref b] below meth c H locs 185 1243858 (lw_Z below #[Value.ref b] s) (F0 m 156 ls []) := by
  obtain ⟨hx, hb, hr, hml, hown0, hts0, hX, hbl, hlocks, hgv⟩ := id C0
  have hown : s.vm.findClass RL = some m.cls := hown0
  have hts : ∀ w ∈ lwS, w.before #[Value.ref b] s = true := fun w h => hts0 w (wsL_law_in w h)
  have hA : ∀ q : Nat, s.heap.size ≤ q → (fun q : Nat => s.heap.size ≤ q) q := fun _ h => h
  have hbA : ¬ (fun q : Nat => s.heap.size ≤ q) b := Nat.not_le.mpr hbl
  refine lv_aload_n hx hb dL_law_156 rfl (lv_at hl 2 rfl) ?_
  refine lv_aload_n hx hb dL_law_157 rfl (lv_at hl 3 rfl) ?_
  refine lv_iload_n hx hb dL_law_158 rfl (lv_at hl 0 rfl) ?_
  refine lv_iconst (v := 1) hx hb dL_law_159 (by decide) ?_
  refine lv_iadd hx hb dL_law_160 ?_
  refine lv_topi (fun z_1 ez_1 => ?_)
  obtain rfl : z_1 = (1 : Int32) := ez_1.trans (by decide)
  refine va_sld hx hb hX hbl hbA hS (by unfold vp_in; decide) dL_law_161 ?_
  refine lv_aload_n hx hb dL_law_162 rfl (lv_at hl 3 rfl) ?_
  refine lv_iload_n hx hb dL_law_163 rfl (lv_at hl 0 rfl) ?_
  refine lv_iconst (v := 2) hx hb dL_law_164 (by decide) ?_
  refine lv_iadd hx hb dL_law_165 ?_
  refine lv_topi (fun z_2 ez_2 => ?_)
  obtain rfl : z_2 = (2 : Int32) := ez_2.trans (by decide)
  refine va_sld hx hb hX hbl hbA hS (by unfold vp_in; decide) dL_law_166 ?_
  refine lv_aload_n hx hb dL_law_167 rfl (lv_at hl 3 rfl) ?_
  refine lv_iload_n hx hb dL_law_168 rfl (lv_at hl 0 rfl) ?_
  refine lv_iconst (v := 3) hx hb dL_law_169 (by decide) ?_
  refine lv_iadd hx hb dL_law_170 ?_
  refine lv_topi (fun z_3 ez_3 => ?_)
  obtain rfl : z_3 = (3 : Int32) := ez_3.trans (by decide)
  refine va_sld hx hb hX hbl hbA hS (by unfold vp_in; decide) dL_law_171 ?_
  refine lv_aload_n hx hb dL_law_172 rfl (lv_at hl 3 rfl) ?_
  refine lv_iload_n hx hb dL_law_173 rfl (lv_at hl 0 rfl) ?_
  refine lv_iconst (v := 4) hx hb dL_law_174 (by decide) ?_
  refine lv_iadd hx hb dL_law_175 ?_
  refine lv_topi (fun z_4 ez_4 => ?_)
  obtain rfl : z_4 = (4 : Int32) := ez_4.trans (by decide)
  refine va_sld hx hb hX hbl hbA hS (by unfold vp_in; decide) dL_law_176 ?_
  refine lv_aload_n hx hb dL_law_177 rfl (lv_at hl 3 rfl) ?_
  refine lv_iload_n hx hb dL_law_178 rfl (lv_at hl 0 rfl) ?_
  refine lv_iconst (v := 5) hx hb dL_law_179 (by decide) ?_
  refine lv_iadd hx hb dL_law_180 ?_
  refine lv_topi (fun z_5 ez_5 => ?_)
  obtain rfl : z_5 = (5 : Int32) := ez_5.trans (by decide)
  refine va_sld hx hb hX hbl hbA hS (by unfold vp_in; decide) dL_law_181 ?_
  have hPc := hP.sub (ws' := [(xh0, .inr (11, [.ref xsl, .ref xwalker_, .ref xrd, .ref xmachine_, .ref xtrial_, .ref xdk])), (xrd, .inr (4, [.ref xlenses_, .int 0, .int 0, .int 0, .int (-1), .int (-1), .ref xtp, .ref xnames_, .ref xquoted_, .ref xlinks_, .ref xwalker2_, .int 0, .int 0, .int 0])), (xtp, .inl (xcI, 600, .inl xfA))]) [0, 1, 2] rfl
  have hDc := hD.sub (ws' := [(xh0, .inr (11, [.ref xsl, .ref xwalker_, .ref xrd, .ref xmachine_, .ref xtrial_, .ref xdk])), (xrd, .inr (4, [.ref xlenses_, .int 0, .int 0, .int 0, .int (-1), .int (-1), .ref xtp, .ref xnames_, .ref xquoted_, .ref xlinks_, .ref xwalker2_, .int 0, .int 0, .int 0])), (xtp, .inl (xcI, 600, .inl xfA))]) [0, 1, 2] (by decide) rfl
  have hKc := hK.sub (tys' := [(xcI, .int)]) [0] rfl
  have hFc := va_free (wc := [(xh0, .inr (11, [.ref xsl, .ref xwalker_, .ref xrd, .ref xmachine_, .ref xtrial_, .ref xdk])), (xrd, .inr (4, [.ref xlenses_, .int 0, .int 0, .int 0, .int (-1), .int (-1), .ref xtp, .ref xnames_, .ref xquoted_, .ref xlinks_, .ref xwalker2_, .int 0, .int 0, .int 0])), (xtp, .inl (xcI, 600, .inl xfA))]) hD hS hA [0, 1, 2] rfl
  refine va_calli (va_runV (As := [.int (xs (1 : Int32).toNatClampNeg), .int (xs (2 : Int32).toNatClampNeg), .int (xs (3 : Int32).toNatClampNeg), .int (xs (4 : Int32).toNatClampNeg), .int (xs (5 : Int32).toNatClampNeg)]) (rest := []) ⟨hx, hb, hml, hown, hts⟩ (k_feed l dC dI H.size xh0 (xs (1 : Int32).toNatClampNeg) (xs (2 : Int32).toNatClampNeg) (xs (3 : Int32).toNatClampNeg) (xs (4 : Int32).toNatClampNeg) (xs (5 : Int32).toNatClampNeg) xsl xwalker_ xrd xmachine_ xtrial_ xdk xlenses_ xtp xnames_ xquoted_ xlinks_ xwalker2_ xcI xfA) (cwV 5 hts gcase_0_13 rfl rfl rfl (by decide +kernel) ⟨Nat.le_of_ble_eq_true rfl, Nat.le_of_ble_eq_true rfl⟩) ⟨fun a U g mk q => by obtain ⟨q0, q1, qP, qK, qD⟩ := q; exact ⟨q0, q1, qP, va_K.moved (u := U) (U := U.calling g mk a) (Vm.Alike.refl U.vm) qK, qD⟩, va_recv hK hP (ci := 11) (q0 := 0) rfl rfl, fun U hU hW => ⟨rfl, by rw [hU], by rw [hU]; exact hPc, va_K.moved hW.alike hKc, hDc.weaken (fun _ _ _ _ => trivial)⟩⟩ rfl rfl hl.1 rfl (lv_room (Nat.le_of_ble_eq_true rfl)) dL_law_182 ⟨Nat.le_of_ble_eq_true rfl, Nat.le_of_ble_eq_true rfl⟩) hS (fun q _ h => hFc q h) hFc (fun r_7 u t H1 locs ht hvm hw hB hz1 hk1 hS => ?_)
  obtain ⟨hP1, hK1, hD1⟩ := hB
  rw [ht] at hP1
  try dsimp only at hw
  obtain ⟨hP, hD⟩ := va_join (wr := [(mh0, .inr (12, [.int 0, .ref ma1, .ref ma2, .ref ma3, .ref ma4, .ref ma5, .int 0, .ref ma7, .ref ma8, .int 0, .ref ma10, .ref ma11, .ref ma12, .ref ma13, .int 0, .ref ma15, .ref ma16, .ref ma17, .ref ma18, .ref ma19, .ref ma20, .ref ma21, .ref ma22, .int 0, .ref ma24, .int 0, .ref ma26, .ref ma27, .int 0, .ref ma29, .ref ma30, .ref ma31, .ref ma32, .ref ma33, .int 0, .ref ma35, .ref ma36, .int 0, .ref ma38, .int 0, .int 0, .int 0, .int 0, .int 0, .long 0, .int 0, .int 0, .int (-1), .int (-1), .int 0, .ref ma50, .ref ma51, .int 0, .int 0, .ref ma54, .ref ma55, .int (-1), .ref ma57, .ref ma58, .ref ma59, .ref ma60, .int 0, .int 0, .int 0, .ref ma64])), (ma38, .inl (mcB, 600, .inl (fun _ => 0)))]) (w1 := []) hP hD [0, 1, 2] [3, 4] rfl rfl (by decide) (by decide) hk1 hFc hP1 hD1
  clear hk1 hz1 hPc hDc hFc hP1 hD1 hK1 hKc
  generalize H1 = H at hP hS ⊢
  have hP : va_P (dC, dI) cls [(mh0, .inr (12, [.int 0, .ref ma1, .ref ma2, .ref ma3, .ref ma4, .ref ma5, .int 0, .ref ma7, .ref ma8, .int 0, .ref ma10, .ref ma11, .ref ma12, .ref ma13, .int 0, .ref ma15, .ref ma16, .ref ma17, .ref ma18, .ref ma19, .ref ma20, .ref ma21, .ref ma22, .int 0, .ref ma24, .int 0, .ref ma26, .ref ma27, .int 0, .ref ma29, .ref ma30, .ref ma31, .ref ma32, .ref ma33, .int 0, .ref ma35, .ref ma36, .int 0, .ref ma38, .int 0, .int 0, .int 0, .int 0, .int 0, .long 0, .int 0, .int 0, .int (-1), .int (-1), .int 0, .ref ma50, .ref ma51, .int 0, .int 0, .ref ma54, .ref ma55, .int (-1), .ref ma57, .ref ma58, .ref ma59, .ref ma60, .int 0, .int 0, .int 0, .ref ma64])), (ma38, .inl (mcB, 600, .inl (fun _ => 0)))] H := hP
  have hD : va_D (fun q : Nat => s.heap.size ≤ q) [(mh0, .inr (12, [.int 0, .ref ma1, .ref ma2, .ref ma3, .ref ma4, .ref ma5, .int 0, .ref ma7, .ref ma8, .int 0, .ref ma10, .ref ma11, .ref ma12, .ref ma13, .int 0, .ref ma15, .ref ma16, .ref ma17, .ref ma18, .ref ma19, .ref ma20, .ref ma21, .ref ma22, .int 0, .ref ma24, .int 0, .ref ma26, .ref ma27, .int 0, .ref ma29, .ref ma30, .ref ma31, .ref ma32, .ref ma33, .int 0, .ref ma35, .ref ma36, .int 0, .ref ma38, .int 0, .int 0, .int 0, .int 0, .int 0, .long 0, .int 0, .int 0, .int (-1), .int (-1), .int 0, .ref ma50, .ref ma51, .int 0, .int 0, .ref ma54, .ref ma55, .int (-1), .ref ma57, .ref ma58, .ref ma59, .ref ma60, .int 0, .int 0, .int 0, .ref ma64])), (ma38, .inl (mcB, 600, .inl (fun _ => 0)))] := hD
  obtain rfl := hw
  refine lv_aload_n hx hb dL_law_185 rfl (lv_at hl 1 rfl) ?_
  refine lv_aload_n hx hb dL_law_186 rfl (lv_at hl 3 rfl) ?_
  refine lv_iload_n hx hb dL_law_187 rfl (lv_at hl 0 rfl) ?_
  refine lv_iconst (v := 1) hx hb dL_law_188 (by decide) ?_
  refine lv_iadd hx hb dL_law_189 ?_
  refine lv_topi (fun z_8 ez_8 => ?_)
  obtain rfl : z_8 = (1 : Int32) := ez_8.trans (by decide)
  refine va_sld hx hb hX hbl hbA hS (by unfold vp_in; decide) dL_law_190 ?_
  refine lv_aload_n hx hb dL_law_191 rfl (lv_at hl 3 rfl) ?_
  refine lv_iload_n hx hb dL_law_192 rfl (lv_at hl 0 rfl) ?_
  refine lv_iconst (v := 2) hx hb dL_law_193 (by decide) ?_
  refine lv_iadd hx hb dL_law_194 ?_
  refine lv_topi (fun z_9 ez_9 => ?_)
  obtain rfl : z_9 = (2 : Int32) := ez_9.trans (by decide)
  refine va_sld hx hb hX hbl hbA hS (by unfold vp_in; decide) dL_law_195 ?_
  refine lv_aload_n hx hb dL_law_196 rfl (lv_at hl 3 rfl) ?_
  refine lv_iload_n hx hb dL_law_197 rfl (lv_at hl 0 rfl) ?_
  refine lv_iconst (v := 3) hx hb dL_law_198 (by decide) ?_
  refine lv_iadd hx hb dL_law_199 ?_
  refine lv_topi (fun z_10 ez_10 => ?_)
  obtain rfl : z_10 = (3 : Int32) := ez_10.trans (by decide)
  refine va_sld hx hb hX hbl hbA hS (by unfold vp_in; decide) dL_law_200 ?_
  refine lv_aload_n hx hb dL_law_201 rfl (lv_at hl 3 rfl) ?_
  refine lv_iload_n hx hb dL_law_202 rfl (lv_at hl 0 rfl) ?_
  refine lv_iconst (v := 4) hx hb dL_law_203 (by decide) ?_
  refine lv_iadd hx hb dL_law_204 ?_
  refine lv_topi (fun z_11 ez_11 => ?_)
  obtain rfl : z_11 = (4 : Int32) := ez_11.trans (by decide)
  refine va_sld hx hb hX hbl hbA hS (by unfold vp_in; decide) dL_law_205 ?_
  refine lv_aload_n hx hb dL_law_206 rfl (lv_at hl 3 rfl) ?_
  refine lv_iload_n hx hb dL_law_207 rfl (lv_at hl 0 rfl) ?_
  refine lv_iconst (v := 5) hx hb dL_law_208 (by decide) ?_
  refine lv_iadd hx hb dL_law_209 ?_
  refine lv_topi (fun z_12 ez_12 => ?_)
  obtain rfl : z_12 = (5 : Int32) := ez_12.trans (by decide)
  refine va_sld hx hb hX hbl hbA hS (by unfold vp_in; decide) dL_law_210 ?_
  have hPc := hP.sub (ws' := [(mh0, .inr (12, [.int 0, .ref ma1, .ref ma2, .ref ma3, .ref ma4, .ref ma5, .int 0, .ref ma7, .ref ma8, .int 0, .ref ma10, .ref ma11, .ref ma12, .ref ma13, .int 0, .ref ma15, .ref ma16, .ref ma17, .ref ma18, .ref ma19, .ref ma20, .ref ma21, .ref ma22, .int 0, .ref ma24, .int 0, .ref ma26, .ref ma27, .int 0, .ref ma29, .ref ma30, .ref ma31, .ref ma32, .ref ma33, .int 0, .ref ma35, .ref ma36, .int 0, .ref ma38, .int 0, .int 0, .int 0, .int 0, .int 0, .long 0, .int 0, .int 0, .int (-1), .int (-1), .int 0, .ref ma50, .ref ma51, .int 0, .int 0, .ref ma54, .ref ma55, .int (-1), .ref ma57, .ref ma58, .ref ma59, .ref ma60, .int 0, .int 0, .int 0, .ref ma64])), (ma38, .inl (mcB, 600, .inl (fun _ => 0)))]) [0, 1] rfl
  have hDc := hD.sub (ws' := [(mh0, .inr (12, [.int 0, .ref ma1, .ref ma2, .ref ma3, .ref ma4, .ref ma5, .int 0, .ref ma7, .ref ma8, .int 0, .ref ma10, .ref ma11, .ref ma12, .ref ma13, .int 0, .ref ma15, .ref ma16, .ref ma17, .ref ma18, .ref ma19, .ref ma20, .ref ma21, .ref ma22, .int 0, .ref ma24, .int 0, .ref ma26, .ref ma27, .int 0, .ref ma29, .ref ma30, .ref ma31, .ref ma32, .ref ma33, .int 0, .ref ma35, .ref ma36, .int 0, .ref ma38, .int 0, .int 0, .int 0, .int 0, .int 0, .long 0, .int 0, .int 0, .int (-1), .int (-1), .int 0, .ref ma50, .ref ma51, .int 0, .int 0, .ref ma54, .ref ma55, .int (-1), .ref ma57, .ref ma58, .ref ma59, .ref ma60, .int 0, .int 0, .int 0, .ref ma64])), (ma38, .inl (mcB, 600, .inl (fun _ => 0)))]) [0, 1] (by decide) rfl
  have hKc := hK.sub (tys' := [(mcB, .byte)]) [1] rfl
  have hFc := va_free (wc := [(mh0, .inr (12, [.int 0, .ref ma1, .ref ma2, .ref ma3, .ref ma4, .ref ma5, .int 0, .ref ma7, .ref ma8, .int 0, .ref ma10, .ref ma11, .ref ma12, .ref ma13, .int 0, .ref ma15, .ref ma16, .ref ma17, .ref ma18, .ref ma19, .ref ma20, .ref ma21, .ref ma22, .int 0, .ref ma24, .int 0, .ref ma26, .ref ma27, .int 0, .ref ma29, .ref ma30, .ref ma31, .ref ma32, .ref ma33, .int 0, .ref ma35, .ref ma36, .int 0, .ref ma38, .int 0, .int 0, .int 0, .int 0, .int 0, .long 0, .int 0, .int 0, .int (-1), .int (-1), .int 0, .ref ma50, .ref ma51, .int 0, .int 0, .ref ma54, .ref ma55, .int (-1), .ref ma57, .ref ma58, .ref ma59, .ref ma60, .int 0, .int 0, .int 0, .ref ma64])), (ma38, .inl (mcB, 600, .inl (fun _ => 0)))]) hD hS hA [0, 1] rfl
  refine va_calli (va_runV (As := [.int (xs (1 : Int32).toNatClampNeg), .int (xs (2 : Int32).toNatClampNeg), .int (xs (3 : Int32).toNatClampNeg), .int (xs (4 : Int32).toNatClampNeg), .int (xs (5 : Int32).toNatClampNeg)]) (rest := [.int 20]) ⟨hx, hb, hml, hown, hts⟩ (m_feed l dC dI H.size mh0 (xs (1 : Int32).toNatClampNeg) (xs (2 : Int32).toNatClampNeg) (xs (3 : Int32).toNatClampNeg) (xs (4 : Int32).toNatClampNeg) (xs (5 : Int32).toNatClampNeg) ma1 ma2 ma3 ma4 ma5 ma7 ma8 ma10 ma11 ma12 ma13 ma15 ma16 ma17 ma18 ma19 ma20 ma21 ma22 ma24 ma26 ma27 ma29 ma30 ma31 ma32 ma33 ma35 ma36 ma38 ma50 ma51 ma54 ma55 ma57 ma58 ma59 ma60 ma64 mcB) (cwV 5 hts gcase_0_17 rfl rfl rfl (by decide +kernel) ⟨Nat.le_of_ble_eq_true rfl, Nat.le_of_ble_eq_true rfl⟩) ⟨fun a U g mk q => by obtain ⟨q0, q1, qP, qK, qD⟩ := q; exact ⟨q0, q1, qP, va_K.moved (u := U) (U := U.calling g mk a) (Vm.Alike.refl U.vm) qK, qD⟩, va_recv hK hP (ci := 12) (q0 := 0) rfl rfl, fun U hU hW => ⟨rfl, by rw [hU], by rw [hU]; exact hPc, va_K.moved hW.alike hKc, hDc.weaken (fun _ _ _ _ => trivial)⟩⟩ rfl rfl hl.1 rfl (lv_room (Nat.le_of_ble_eq_true rfl)) dL_law_211 ⟨Nat.le_of_ble_eq_true rfl, Nat.le_of_ble_eq_true rfl⟩) hS (fun q _ h => hFc q h) hFc (fun r_14 u t H1 locs ht hvm hw hB hz1 hk1 hS => ?_)
  obtain ⟨hP1, hK1, hD1⟩ := hB
  rw [ht] at hP1
  try dsimp only at hw
  obtain ⟨hP, hD⟩ := va_join (wr := []) (w1 := []) hP hD [0, 1] [] rfl rfl (by decide) (by decide) hk1 hFc hP1 hD1
  clear hk1 hz1 hPc hDc hFc hP1 hD1 hK1 hKc
  generalize H1 = H at hP hS ⊢
  have hP : va_P (dC, dI) cls [] H := hP
  have hD : va_D (fun q : Nat => s.heap.size ≤ q) [] := hD
  obtain rfl := hw
  refine lv_icmp_eq (tgt := 1218) hx hb dL_law_214 (by decide) (fun c_15 => ?_) (fun c_15 => ?_)
  rotate_left
  · exact (by revert c_15; decide : False).elim
  exact law_tail l C0 hS (Nat.le_of_ble_eq_true rfl) (Nat.le_of_ble_eq_true rfl) (lv_sub hl [3, 0] rfl)
theorem gcase_1_18g : GoodIn lwS wk_end := goodIn_r _ [211, 190, 191, 57, 58, 59, 60, 61, 62, 63, 64, 65, 66, 67, 68, 69, 70, 118, 119, 120, 121, 122, 123] (by decide +kernel) (by decide +kernel)
theorem gcase_1_18 : GoodIn lwS (wsV RL 18 RX11 yX11_end wk_end) := goodIn_app (goodIn_r _ [212, 213, 214, 202] (by decide +kernel) (by decide +kernel)) gcase_1_18g
theorem gcase_1_22g : GoodIn lwS wm_end := goodIn_r _ [215, 204, 205, 216, 217, 218, 210, 219, 124, 125, 126, 127, 128, 129, 130, 131, 132, 133, 134, 135, 136, 137, 138, 139, 140, 141, 142, 143, 144, 145, 146, 147, 148, 149, 150, 151, 152, 153, 154, 155, 156, 157, 158, 159, 160, 161, 162, 163, 164, 165, 166, 167, 168, 169, 170, 171, 172, 173, 174, 175, 176, 177, 178, 179, 180, 181, 182, 183, 184, 185, 186, 187, 188] (by decide +kernel) (by decide +kernel)
theorem gcase_1_22 : GoodIn lwS (wsV RL 22 RX12 yX12_end wm_end) := goodIn_app (goodIn_r _ [220, 221, 222, 210] (by decide +kernel) (by decide +kernel)) gcase_1_22g
set_option maxHeartbeats 4000000 in
set_option maxRecDepth 100000 in
theorem case_1 {p : Program} {e : Env} {s : State} {m : MethodId} {below : List Frame} {meth : Method} {c : Code} (l : Launch) {b : Nat} {xs : Nat → Int32} (C0 : lw_At p s m meth c b 6 xs) (dC : Nat → ClassId) (dI : Nat → Nat → Nat) (mh0 : Nat) (xh0 : Nat) (xsl : Nat) (xwalker_ : Nat) (xrd : Nat) (xmachine_ : Nat) (xtrial_ : Nat) (xdk : Nat) (xlenses_ : Nat) (xtp : Nat) (xnames_ : Nat) (xquoted_ : Nat) (xlinks_ : Nat) (xwalker2_ : Nat) (ma1 : Nat) (ma2 : Nat) (ma3 : Nat) (ma4 : Nat) (ma5 : Nat) (ma7 : Nat) (ma8 : Nat) (ma10 : Nat) (ma11 : Nat) (ma12 : Nat) (ma13 : Nat) (ma15 : Nat) (ma16 : Nat) (ma17 : Nat) (ma18 : Nat) (ma19 : Nat) (ma20 : Nat) (ma21 : Nat) (ma22 : Nat) (ma24 : Nat) (ma26 : Nat) (ma27 : Nat) (ma29 : Nat) (ma30 : Nat) (ma31 : Nat) (ma32 : Nat) (ma33 : Nat) (ma35 : Nat) (ma36 : Nat) (ma38 : Nat) (ma50 : Nat) (ma51 : Nat) (ma54 : Nat) (ma55 : Nat) (ma57 : Nat) (ma58 : Nat) (ma59 : Nat) (ma60 : Nat) (ma64 : Nat) {H : Heap} {locs : List Loc} {ls : Array Slot} (hK : va_K (dC, dI) cls [] s) (hP : va_P (dC, dI) cls [(xh0, .inr (11, [.ref xsl, .ref xwalker_, .ref xrd, .ref xmachine_, .ref xtrial_, .ref xdk])), (xrd, .inr (4, [.ref xlenses_, .int 0, .int 0, .int 0, .int (-1), .int (-1), .ref xtp, .ref xnames_, .ref xquoted_, .ref xlinks_, .ref xwalker2_, .int 0, .int 0, .int 0])), (mh0, .inr (12, [.int 0, .ref ma1, .ref ma2, .ref ma3, .ref ma4, .ref ma5, .int 0, .ref ma7, .ref ma8, .int 0, .ref ma10, .ref ma11, .ref ma12, .ref ma13, .int 0, .ref ma15, .ref ma16, .ref ma17, .ref ma18, .ref ma19, .ref ma20, .ref ma21, .ref ma22, .int 0, .ref ma24, .int 0, .ref ma26, .ref ma27, .int 0, .ref ma29, .ref ma30, .ref ma31, .ref ma32, .ref ma33, .int 0, .ref ma35, .ref ma36, .int 0, .ref ma38, .int 0, .int 0, .int 0, .int 0, .int 0, .long 0, .int 0, .int 0, .int (-1), .int (-1), .int 0, .ref ma50, .ref ma51, .int 0, .int 0, .ref ma54, .ref ma55, .int (-1), .ref ma57, .ref ma58, .ref ma59, .ref ma60, .int 0, .int 0, .int 0, .ref ma64]))] H) (hD : va_D (fun q : Nat => s.heap.size ≤ q) [(xh0, .inr (11, [.ref xsl, .ref xwalker_, .ref xrd, .ref xmachine_, .ref xtrial_, .ref xdk])), (xrd, .inr (4, [.ref xlenses_, .int 0, .int 0, .int 0, .int (-1), .int (-1), .ref xtp, .ref xnames_, .ref xquoted_, .ref xlinks_, .ref xwalker2_, .int 0, .int 0, .int 0])), (mh0, .inr (12, [.int 0, .ref ma1, .ref ma2, .ref ma3, .ref ma4, .ref ma5, .int 0, .ref ma7, .ref ma8, .int 0, .ref ma10, .ref ma11, .ref ma12, .ref ma13, .int 0, .ref ma15, .ref ma16, .ref ma17, .ref ma18, .ref ma19, .ref ma20, .ref ma21, .ref ma22, .int 0, .ref ma24, .int 0, .ref ma26, .ref ma27, .int 0, .ref ma29, .ref ma30, .ref ma31, .ref ma32, .ref ma33, .int 0, .ref ma35, .ref ma36, .int 0, .ref ma38, .int 0, .int 0, .int 0, .int 0, .int 0, .long 0, .int 0, .int 0, .int (-1), .int (-1), .int 0, .ref ma50, .ref ma51, .int 0, .int 0, .ref ma54, .ref ma55, .int (-1), .ref ma57, .ref ma58, .ref ma59, .ref ma60, .int 0, .int 0, .int 0, .ref ma64]))]) (hS : va_S (fun q : Nat => s.heap.size ≤ q) s.heap H locs) (hl : lv_has ls 4 [(3, .int 0), (2, .ref mh0), (1, .ref xh0), (0, .ref b)]) : W p l e room_1 s m #[Value.ref b] below meth c H locs 185 1243858 (lw_Z below #[Value.ref b] s) (F0 m 219 ls []) := by
  obtain ⟨hx, hb, hr, hml, hown0, hts0, hX, hbl, hlocks, hgv⟩ := id C0
  have hown : s.vm.findClass RL = some m.cls := hown0
  have hts : ∀ w ∈ lwS, w.before #[Value.ref b] s = true := fun w h => hts0 w (wsL_law_in w h)
  have hA : ∀ q : Nat, s.heap.size ≤ q → (fun q : Nat => s.heap.size ≤ q) q := fun _ h => h
  have hbA : ¬ (fun q : Nat => s.heap.size ≤ q) b := Nat.not_le.mpr hbl
  refine lv_aload_n hx hb dL_law_219 rfl (lv_at hl 2 rfl) ?_
  refine lv_aload_n hx hb dL_law_220 rfl (lv_at hl 3 rfl) ?_
  refine lv_iload_n hx hb dL_law_221 rfl (lv_at hl 0 rfl) ?_
  refine lv_iconst (v := 1) hx hb dL_law_222 (by decide) ?_
  refine lv_iadd hx hb dL_law_223 ?_
  refine lv_topi (fun z_1 ez_1 => ?_)
  obtain rfl : z_1 = (1 : Int32) := ez_1.trans (by decide)
  refine va_sld hx hb hX hbl hbA hS (by unfold vp_in; decide) dL_law_224 ?_
  have hPc := hP.sub (ws' := [(xh0, .inr (11, [.ref xsl, .ref xwalker_, .ref xrd, .ref xmachine_, .ref xtrial_, .ref xdk])), (xrd, .inr (4, [.ref xlenses_, .int 0, .int 0, .int 0, .int (-1), .int (-1), .ref xtp, .ref xnames_, .ref xquoted_, .ref xlinks_, .ref xwalker2_, .int 0, .int 0, .int 0]))]) [0, 1] rfl
  have hDc := hD.sub (ws' := [(xh0, .inr (11, [.ref xsl, .ref xwalker_, .ref xrd, .ref xmachine_, .ref xtrial_, .ref xdk])), (xrd, .inr (4, [.ref xlenses_, .int 0, .int 0, .int 0, .int (-1), .int (-1), .ref xtp, .ref xnames_, .ref xquoted_, .ref xlinks_, .ref xwalker2_, .int 0, .int 0, .int 0]))]) [0, 1] (by decide) rfl
  have hKc := hK.sub (tys' := []) [] rfl
  have hFc := va_free (wc := [(xh0, .inr (11, [.ref xsl, .ref xwalker_, .ref xrd, .ref xmachine_, .ref xtrial_, .ref xdk])), (xrd, .inr (4, [.ref xlenses_, .int 0, .int 0, .int 0, .int (-1), .int (-1), .ref xtp, .ref xnames_, .ref xquoted_, .ref xlinks_, .ref xwalker2_, .int 0, .int 0, .int 0]))]) hD hS hA [0, 1] rfl
  refine va_calli (va_runV (As := [.int (xs (1 : Int32).toNatClampNeg)]) (rest := []) ⟨hx, hb, hml, hown, hts⟩ (k_end l dC dI H.size xh0 (xs (1 : Int32).toNatClampNeg) xsl xwalker_ xrd xmachine_ xtrial_ xdk xlenses_ xtp xnames_ xquoted_ xlinks_ xwalker2_) (cwV 1 hts gcase_1_18 rfl rfl rfl (by decide +kernel) ⟨Nat.le_of_ble_eq_true rfl, Nat.le_of_ble_eq_true rfl⟩) ⟨fun a U g mk q => by obtain ⟨q0, q1, qP, qK, qD⟩ := q; exact ⟨q0, q1, qP, va_K.moved (u := U) (U := U.calling g mk a) (Vm.Alike.refl U.vm) qK, qD⟩, va_recv hK hP (ci := 11) (q0 := 0) rfl rfl, fun U hU hW => ⟨rfl, by rw [hU], by rw [hU]; exact hPc, va_K.moved hW.alike hKc, hDc.weaken (fun _ _ _ _ => trivial)⟩⟩ rfl rfl hl.1 rfl (lv_room (Nat.le_of_ble_eq_true rfl)) dL_law_225 ⟨Nat.le_of_ble_eq_true rfl, Nat.le_of_ble_eq_true rfl⟩) hS (fun q _ h => hFc q h) hFc (fun r_3 u t H1 locs ht hvm hw hB hz1 hk1 hS => ?_)
  obtain ⟨hP1, hK1, hD1⟩ := hB
  rw [ht] at hP1
  try dsimp only at hw
  obtain ⟨hP, hD⟩ := va_join (wr := [(mh0, .inr (12, [.int 0, .ref ma1, .ref ma2, .ref ma3, .ref ma4, .ref ma5, .int 0, .ref ma7, .ref ma8, .int 0, .ref ma10, .ref ma11, .ref ma12, .ref ma13, .int 0, .ref ma15, .ref ma16, .ref ma17, .ref ma18, .ref ma19, .ref ma20, .ref ma21, .ref ma22, .int 0, .ref ma24, .int 0, .ref ma26, .ref ma27, .int 0, .ref ma29, .ref ma30, .ref ma31, .ref ma32, .ref ma33, .int 0, .ref ma35, .ref ma36, .int 0, .ref ma38, .int 0, .int 0, .int 0, .int 0, .int 0, .long 0, .int 0, .int 0, .int (-1), .int (-1), .int 0, .ref ma50, .ref ma51, .int 0, .int 0, .ref ma54, .ref ma55, .int (-1), .ref ma57, .ref ma58, .ref ma59, .ref ma60, .int 0, .int 0, .int 0, .ref ma64]))]) (w1 := []) hP hD [0, 1] [2] rfl rfl (by decide) (by decide) hk1 hFc hP1 hD1
  clear hk1 hz1 hPc hDc hFc hP1 hD1 hK1 hKc
  generalize H1 = H at hP hS ⊢
  have hP : va_P (dC, dI) cls [(mh0, .inr (12, [.int 0, .ref ma1, .ref ma2, .ref ma3, .ref ma4, .ref ma5, .int 0, .ref ma7, .ref ma8, .int 0, .ref ma10, .ref ma11, .ref ma12, .ref ma13, .int 0, .ref ma15, .ref ma16, .ref ma17, .ref ma18, .ref ma19, .ref ma20, .ref ma21, .ref ma22, .int 0, .ref ma24, .int 0, .ref ma26, .ref ma27, .int 0, .ref ma29, .ref ma30, .ref ma31, .ref ma32, .ref ma33, .int 0, .ref ma35, .ref ma36, .int 0, .ref ma38, .int 0, .int 0, .int 0, .int 0, .int 0, .long 0, .int 0, .int 0, .int (-1), .int (-1), .int 0, .ref ma50, .ref ma51, .int 0, .int 0, .ref ma54, .ref ma55, .int (-1), .ref ma57, .ref ma58, .ref ma59, .ref ma60, .int 0, .int 0, .int 0, .ref ma64]))] H := hP
  have hD : va_D (fun q : Nat => s.heap.size ≤ q) [(mh0, .inr (12, [.int 0, .ref ma1, .ref ma2, .ref ma3, .ref ma4, .ref ma5, .int 0, .ref ma7, .ref ma8, .int 0, .ref ma10, .ref ma11, .ref ma12, .ref ma13, .int 0, .ref ma15, .ref ma16, .ref ma17, .ref ma18, .ref ma19, .ref ma20, .ref ma21, .ref ma22, .int 0, .ref ma24, .int 0, .ref ma26, .ref ma27, .int 0, .ref ma29, .ref ma30, .ref ma31, .ref ma32, .ref ma33, .int 0, .ref ma35, .ref ma36, .int 0, .ref ma38, .int 0, .int 0, .int 0, .int 0, .int 0, .long 0, .int 0, .int 0, .int (-1), .int (-1), .int 0, .ref ma50, .ref ma51, .int 0, .int 0, .ref ma54, .ref ma55, .int (-1), .ref ma57, .ref ma58, .ref ma59, .ref ma60, .int 0, .int 0, .int 0, .ref ma64]))] := hD
  obtain rfl := hw
  refine lv_aload_n hx hb dL_law_228 rfl (lv_at hl 1 rfl) ?_
  refine lv_aload_n hx hb dL_law_229 rfl (lv_at hl 3 rfl) ?_
  refine lv_iload_n hx hb dL_law_230 rfl (lv_at hl 0 rfl) ?_
  refine lv_iconst (v := 1) hx hb dL_law_231 (by decide) ?_
  refine lv_iadd hx hb dL_law_232 ?_
  refine lv_topi (fun z_4 ez_4 => ?_)
  obtain rfl : z_4 = (1 : Int32) := ez_4.trans (by decide)
  refine va_sld hx hb hX hbl hbA hS (by unfold vp_in; decide) dL_law_233 ?_
  have hPc := hP.sub (ws' := [(mh0, .inr (12, [.int 0, .ref ma1, .ref ma2, .ref ma3, .ref ma4, .ref ma5, .int 0, .ref ma7, .ref ma8, .int 0, .ref ma10, .ref ma11, .ref ma12, .ref ma13, .int 0, .ref ma15, .ref ma16, .ref ma17, .ref ma18, .ref ma19, .ref ma20, .ref ma21, .ref ma22, .int 0, .ref ma24, .int 0, .ref ma26, .ref ma27, .int 0, .ref ma29, .ref ma30, .ref ma31, .ref ma32, .ref ma33, .int 0, .ref ma35, .ref ma36, .int 0, .ref ma38, .int 0, .int 0, .int 0, .int 0, .int 0, .long 0, .int 0, .int 0, .int (-1), .int (-1), .int 0, .ref ma50, .ref ma51, .int 0, .int 0, .ref ma54, .ref ma55, .int (-1), .ref ma57, .ref ma58, .ref ma59, .ref ma60, .int 0, .int 0, .int 0, .ref ma64]))]) [0] rfl
  have hDc := hD.sub (ws' := [(mh0, .inr (12, [.int 0, .ref ma1, .ref ma2, .ref ma3, .ref ma4, .ref ma5, .int 0, .ref ma7, .ref ma8, .int 0, .ref ma10, .ref ma11, .ref ma12, .ref ma13, .int 0, .ref ma15, .ref ma16, .ref ma17, .ref ma18, .ref ma19, .ref ma20, .ref ma21, .ref ma22, .int 0, .ref ma24, .int 0, .ref ma26, .ref ma27, .int 0, .ref ma29, .ref ma30, .ref ma31, .ref ma32, .ref ma33, .int 0, .ref ma35, .ref ma36, .int 0, .ref ma38, .int 0, .int 0, .int 0, .int 0, .int 0, .long 0, .int 0, .int 0, .int (-1), .int (-1), .int 0, .ref ma50, .ref ma51, .int 0, .int 0, .ref ma54, .ref ma55, .int (-1), .ref ma57, .ref ma58, .ref ma59, .ref ma60, .int 0, .int 0, .int 0, .ref ma64]))]) [0] (by decide) rfl
  have hKc := hK.sub (tys' := []) [] rfl
  have hFc := va_free (wc := [(mh0, .inr (12, [.int 0, .ref ma1, .ref ma2, .ref ma3, .ref ma4, .ref ma5, .int 0, .ref ma7, .ref ma8, .int 0, .ref ma10, .ref ma11, .ref ma12, .ref ma13, .int 0, .ref ma15, .ref ma16, .ref ma17, .ref ma18, .ref ma19, .ref ma20, .ref ma21, .ref ma22, .int 0, .ref ma24, .int 0, .ref ma26, .ref ma27, .int 0, .ref ma29, .ref ma30, .ref ma31, .ref ma32, .ref ma33, .int 0, .ref ma35, .ref ma36, .int 0, .ref ma38, .int 0, .int 0, .int 0, .int 0, .int 0, .long 0, .int 0, .int 0, .int (-1), .int (-1), .int 0, .ref ma50, .ref ma51, .int 0, .int 0, .ref ma54, .ref ma55, .int (-1), .ref ma57, .ref ma58, .ref ma59, .ref ma60, .int 0, .int 0, .int 0, .ref ma64]))]) hD hS hA [0] rfl
  refine va_calli (va_runV (As := [.int (xs (1 : Int32).toNatClampNeg)]) (rest := [.int (sp_end (xs (1 : Int32).toNatClampNeg))]) ⟨hx, hb, hml, hown, hts⟩ (m_end l dC dI H.size mh0 (xs (1 : Int32).toNatClampNeg) ma1 ma2 ma3 ma4 ma5 ma7 ma8 ma10 ma11 ma12 ma13 ma15 ma16 ma17 ma18 ma19 ma20 ma21 ma22 ma24 ma26 ma27 ma29 ma30 ma31 ma32 ma33 ma35 ma36 ma38 ma50 ma51 ma54 ma55 ma57 ma58 ma59 ma60 ma64) (cwV 1 hts gcase_1_22 rfl rfl rfl (by decide +kernel) ⟨Nat.le_of_ble_eq_true rfl, Nat.le_of_ble_eq_true rfl⟩) ⟨fun a U g mk q => by obtain ⟨q0, q1, qP, qK, qD⟩ := q; exact ⟨q0, q1, qP, va_K.moved (u := U) (U := U.calling g mk a) (Vm.Alike.refl U.vm) qK, qD⟩, va_recv hK hP (ci := 12) (q0 := 0) rfl rfl, fun U hU hW => ⟨rfl, by rw [hU], by rw [hU]; exact hPc, va_K.moved hW.alike hKc, hDc.weaken (fun _ _ _ _ => trivial)⟩⟩ rfl rfl hl.1 rfl (lv_room (Nat.le_of_ble_eq_true rfl)) dL_law_234 ⟨Nat.le_of_ble_eq_true rfl, Nat.le_of_ble_eq_true rfl⟩) hS (fun q _ h => hFc q h) hFc (fun r_6 u t H1 locs ht hvm hw hB hz1 hk1 hS => ?_)
  obtain ⟨hP1, hK1, hD1⟩ := hB
  rw [ht] at hP1
  try dsimp only at hw
  obtain ⟨hP, hD⟩ := va_join (wr := []) (w1 := []) hP hD [0] [] rfl rfl (by decide) (by decide) hk1 hFc hP1 hD1
  clear hk1 hz1 hPc hDc hFc hP1 hD1 hK1 hKc
  generalize H1 = H at hP hS ⊢
  have hP : va_P (dC, dI) cls [] H := hP
  have hD : va_D (fun q : Nat => s.heap.size ≤ q) [] := hD
  obtain rfl := hw
  refine lv_icmp_eq (tgt := 1218) hx hb dL_law_237 (by decide) (fun c_7 => ?_) (fun c_7 => ?_)
  rotate_left
  · exact absurd rfl c_7
  exact law_tail l C0 hS (Nat.le_of_ble_eq_true rfl) (Nat.le_of_ble_eq_true rfl) (lv_sub hl [3, 0] rfl)
theorem gcase_2_23g : GoodIn lwS wk_lens := goodIn_r _ [223, 190, 224, 225, 226, 195, 227, 228, 229, 230, 231, 232, 233, 234, 235, 236, 237, 238, 239, 240, 197, 241, 242, 243, 244, 245, 246, 247, 248, 249, 250, 251, 252, 191, 57, 58, 59, 60, 61, 62, 63, 64, 65, 66, 67, 68, 69, 70, 118, 119, 120, 121, 122, 123] (by decide +kernel) (by decide +kernel)
theorem gcase_2_23 : GoodIn lwS (wsV RL 23 RX11 yX11_lens wk_lens) := goodIn_app (goodIn_r _ [253, 254, 255, 202] (by decide +kernel) (by decide +kernel)) gcase_2_23g
theorem gcase_2_27g : GoodIn lwS wm_lens := goodIn_r _ [256, 204, 257, 258, 259, 260, 261, 262, 263, 264, 265, 266, 267, 268, 269, 270, 210, 271, 272, 273, 274, 275, 205, 276, 277, 278, 279, 280, 281, 282, 283, 284, 285, 286, 287, 288, 289, 290, 291, 292, 293, 294, 295, 296, 297, 298, 299, 300, 301, 302, 303, 304, 124, 125, 126, 127, 128, 129, 130, 131, 132, 133, 134, 135, 136, 137, 138, 139, 140, 141, 142, 143, 144, 145, 146, 147, 148, 149, 150, 151, 152, 153, 154, 155, 156, 157, 158, 159, 160, 161, 162, 163, 164, 165, 166, 167, 168, 169, 170, 171, 172, 173, 174, 175, 176, 177, 178, 179, 180, 181, 182, 183, 184, 185, 186, 187, 188] (by decide +kernel) (by decide +kernel)
theorem gcase_2_27 : GoodIn lwS (wsV RL 27 RX12 yX12_lens wm_lens) := goodIn_app (goodIn_r _ [305, 306, 307, 210] (by decide +kernel) (by decide +kernel)) gcase_2_27g
set_option maxHeartbeats 4000000 in
set_option maxRecDepth 100000 in
theorem case_2 {p : Program} {e : Env} {s : State} {m : MethodId} {below : List Frame} {meth : Method} {c : Code} (l : Launch) {b : Nat} {xs : Nat → Int32} (C0 : lw_At p s m meth c b 6 xs) (dC : Nat → ClassId) (dI : Nat → Nat → Nat) (mh0 : Nat) (xh0 : Nat) (xsl : Nat) (xwalker_ : Nat) (xrd : Nat) (xmachine_ : Nat) (xtrial_ : Nat) (xdk : Nat) (xlenses_ : Nat) (xtp : Nat) (xnames_ : Nat) (xquoted_ : Nat) (xlinks_ : Nat) (xwalker2_ : Nat) (ma1 : Nat) (ma2 : Nat) (ma3 : Nat) (ma4 : Nat) (ma5 : Nat) (ma7 : Nat) (ma8 : Nat) (ma10 : Nat) (ma11 : Nat) (ma12 : Nat) (ma13 : Nat) (ma15 : Nat) (ma16 : Nat) (ma17 : Nat) (ma18 : Nat) (ma19 : Nat) (ma20 : Nat) (ma21 : Nat) (ma22 : Nat) (ma24 : Nat) (ma26 : Nat) (ma27 : Nat) (ma29 : Nat) (ma30 : Nat) (ma31 : Nat) (ma32 : Nat) (ma33 : Nat) (ma35 : Nat) (ma36 : Nat) (ma38 : Nat) (ma50 : Nat) (ma51 : Nat) (ma54 : Nat) (ma55 : Nat) (ma57 : Nat) (ma58 : Nat) (ma59 : Nat) (ma60 : Nat) (ma64 : Nat) {H : Heap} {locs : List Loc} {ls : Array Slot} (hK : va_K (dC, dI) cls [] s) (hP : va_P (dC, dI) cls [(xh0, .inr (11, [.ref xsl, .ref xwalker_, .ref xrd, .ref xmachine_, .ref xtrial_, .ref xdk])), (xrd, .inr (4, [.ref xlenses_, .int 0, .int 0, .int 0, .int (-1), .int (-1), .ref xtp, .ref xnames_, .ref xquoted_, .ref xlinks_, .ref xwalker2_, .int 0, .int 0, .int 0])), (mh0, .inr (12, [.int 0, .ref ma1, .ref ma2, .ref ma3, .ref ma4, .ref ma5, .int 0, .ref ma7, .ref ma8, .int 0, .ref ma10, .ref ma11, .ref ma12, .ref ma13, .int 0, .ref ma15, .ref ma16, .ref ma17, .ref ma18, .ref ma19, .ref ma20, .ref ma21, .ref ma22, .int 0, .ref ma24, .int 0, .ref ma26, .ref ma27, .int 0, .ref ma29, .ref ma30, .ref ma31, .ref ma32, .ref ma33, .int 0, .ref ma35, .ref ma36, .int 0, .ref ma38, .int 0, .int 0, .int 0, .int 0, .int 0, .long 0, .int 0, .int 0, .int (-1), .int (-1), .int 0, .ref ma50, .ref ma51, .int 0, .int 0, .ref ma54, .ref ma55, .int (-1), .ref ma57, .ref ma58, .ref ma59, .ref ma60, .int 0, .int 0, .int 0, .ref ma64]))] H) (hD : va_D (fun q : Nat => s.heap.size ≤ q) [(xh0, .inr (11, [.ref xsl, .ref xwalker_, .ref xrd, .ref xmachine_, .ref xtrial_, .ref xdk])), (xrd, .inr (4, [.ref xlenses_, .int 0, .int 0, .int 0, .int (-1), .int (-1), .ref xtp, .ref xnames_, .ref xquoted_, .ref xlinks_, .ref xwalker2_, .int 0, .int 0, .int 0])), (mh0, .inr (12, [.int 0, .ref ma1, .ref ma2, .ref ma3, .ref ma4, .ref ma5, .int 0, .ref ma7, .ref ma8, .int 0, .ref ma10, .ref ma11, .ref ma12, .ref ma13, .int 0, .ref ma15, .ref ma16, .ref ma17, .ref ma18, .ref ma19, .ref ma20, .ref ma21, .ref ma22, .int 0, .ref ma24, .int 0, .ref ma26, .ref ma27, .int 0, .ref ma29, .ref ma30, .ref ma31, .ref ma32, .ref ma33, .int 0, .ref ma35, .ref ma36, .int 0, .ref ma38, .int 0, .int 0, .int 0, .int 0, .int 0, .long 0, .int 0, .int 0, .int (-1), .int (-1), .int 0, .ref ma50, .ref ma51, .int 0, .int 0, .ref ma54, .ref ma55, .int (-1), .ref ma57, .ref ma58, .ref ma59, .ref ma60, .int 0, .int 0, .int 0, .ref ma64]))]) (hS : va_S (fun q : Nat => s.heap.size ≤ q) s.heap H locs) (hl : lv_has ls 4 [(3, .int 0), (2, .ref mh0), (1, .ref xh0), (0, .ref b)]) : W p l e room_1 s m #[Value.ref b] below meth c H locs 185 1243858 (lw_Z below #[Value.ref b] s) (F0 m 242 ls []) := by
  obtain ⟨hx, hb, hr, hml, hown0, hts0, hX, hbl, hlocks, hgv⟩ := id C0
  have hown : s.vm.findClass RL = some m.cls := hown0
  have hts : ∀ w ∈ lwS, w.before #[Value.ref b] s = true := fun w h => hts0 w (wsL_law_in w h)
  have hA : ∀ q : Nat, s.heap.size ≤ q → (fun q : Nat => s.heap.size ≤ q) q := fun _ h => h
  have hbA : ¬ (fun q : Nat => s.heap.size ≤ q) b := Nat.not_le.mpr hbl
  refine lv_aload_n hx hb dL_law_242 rfl (lv_at hl 2 rfl) ?_
  have hPc := hP.sub (ws' := [(xh0, .inr (11, [.ref xsl, .ref xwalker_, .ref xrd, .ref xmachine_, .ref xtrial_, .ref xdk])), (xrd, .inr (4, [.ref xlenses_, .int 0, .int 0, .int 0, .int (-1), .int (-1), .ref xtp, .ref xnames_, .ref xquoted_, .ref xlinks_, .ref xwalker2_, .int 0, .int 0, .int 0]))]) [0, 1] rfl
  have hDc := hD.sub (ws' := [(xh0, .inr (11, [.ref xsl, .ref xwalker_, .ref xrd, .ref xmachine_, .ref xtrial_, .ref xdk])), (xrd, .inr (4, [.ref xlenses_, .int 0, .int 0, .int 0, .int (-1), .int (-1), .ref xtp, .ref xnames_, .ref xquoted_, .ref xlinks_, .ref xwalker2_, .int 0, .int 0, .int 0]))]) [0, 1] (by decide) rfl
  have hKc := hK.sub (tys' := []) [] rfl
  have hFc := va_free (wc := [(xh0, .inr (11, [.ref xsl, .ref xwalker_, .ref xrd, .ref xmachine_, .ref xtrial_, .ref xdk])), (xrd, .inr (4, [.ref xlenses_, .int 0, .int 0, .int 0, .int (-1), .int (-1), .ref xtp, .ref xnames_, .ref xquoted_, .ref xlinks_, .ref xwalker2_, .int 0, .int 0, .int 0]))]) hD hS hA [0, 1] rfl
  refine va_calli (va_runV (As := []) (rest := []) ⟨hx, hb, hml, hown, hts⟩ (k_lens l dC dI H.size xh0 xsl xwalker_ xrd xmachine_ xtrial_ xdk xlenses_ xtp xnames_ xquoted_ xlinks_ xwalker2_) (cwV 0 hts gcase_2_23 rfl rfl rfl (by decide +kernel) ⟨Nat.le_of_ble_eq_true rfl, Nat.le_of_ble_eq_true rfl⟩) ⟨fun a U g mk q => by obtain ⟨q0, q1, qP, qK, qD⟩ := q; exact ⟨q0, q1, qP, va_K.moved (u := U) (U := U.calling g mk a) (Vm.Alike.refl U.vm) qK, qD⟩, va_recv hK hP (ci := 11) (q0 := 0) rfl rfl, fun U hU hW => ⟨rfl, by rw [hU], by rw [hU]; exact hPc, va_K.moved hW.alike hKc, hDc.weaken (fun _ _ _ _ => trivial)⟩⟩ rfl rfl hl.1 rfl (lv_room (Nat.le_of_ble_eq_true rfl)) dL_law_243 ⟨Nat.le_of_ble_eq_true rfl, Nat.le_of_ble_eq_true rfl⟩) hS (fun q _ h => hFc q h) hFc (fun r_2 u t H1 locs ht hvm hw hB hz1 hk1 hS => ?_)
  obtain ⟨hP1, hK1, hD1⟩ := hB
  rw [ht] at hP1
  try dsimp only at hw
  obtain ⟨hP, hD⟩ := va_join (wr := [(mh0, .inr (12, [.int 0, .ref ma1, .ref ma2, .ref ma3, .ref ma4, .ref ma5, .int 0, .ref ma7, .ref ma8, .int 0, .ref ma10, .ref ma11, .ref ma12, .ref ma13, .int 0, .ref ma15, .ref ma16, .ref ma17, .ref ma18, .ref ma19, .ref ma20, .ref ma21, .ref ma22, .int 0, .ref ma24, .int 0, .ref ma26, .ref ma27, .int 0, .ref ma29, .ref ma30, .ref ma31, .ref ma32, .ref ma33, .int 0, .ref ma35, .ref ma36, .int 0, .ref ma38, .int 0, .int 0, .int 0, .int 0, .int 0, .long 0, .int 0, .int 0, .int (-1), .int (-1), .int 0, .ref ma50, .ref ma51, .int 0, .int 0, .ref ma54, .ref ma55, .int (-1), .ref ma57, .ref ma58, .ref ma59, .ref ma60, .int 0, .int 0, .int 0, .ref ma64]))]) (w1 := []) hP hD [0, 1] [2] rfl rfl (by decide) (by decide) hk1 hFc hP1 hD1
  clear hk1 hz1 hPc hDc hFc hP1 hD1 hK1 hKc
  generalize H1 = H at hP hS ⊢
  have hP : va_P (dC, dI) cls [(mh0, .inr (12, [.int 0, .ref ma1, .ref ma2, .ref ma3, .ref ma4, .ref ma5, .int 0, .ref ma7, .ref ma8, .int 0, .ref ma10, .ref ma11, .ref ma12, .ref ma13, .int 0, .ref ma15, .ref ma16, .ref ma17, .ref ma18, .ref ma19, .ref ma20, .ref ma21, .ref ma22, .int 0, .ref ma24, .int 0, .ref ma26, .ref ma27, .int 0, .ref ma29, .ref ma30, .ref ma31, .ref ma32, .ref ma33, .int 0, .ref ma35, .ref ma36, .int 0, .ref ma38, .int 0, .int 0, .int 0, .int 0, .int 0, .long 0, .int 0, .int 0, .int (-1), .int (-1), .int 0, .ref ma50, .ref ma51, .int 0, .int 0, .ref ma54, .ref ma55, .int (-1), .ref ma57, .ref ma58, .ref ma59, .ref ma60, .int 0, .int 0, .int 0, .ref ma64]))] H := hP
  have hD : va_D (fun q : Nat => s.heap.size ≤ q) [(mh0, .inr (12, [.int 0, .ref ma1, .ref ma2, .ref ma3, .ref ma4, .ref ma5, .int 0, .ref ma7, .ref ma8, .int 0, .ref ma10, .ref ma11, .ref ma12, .ref ma13, .int 0, .ref ma15, .ref ma16, .ref ma17, .ref ma18, .ref ma19, .ref ma20, .ref ma21, .ref ma22, .int 0, .ref ma24, .int 0, .ref ma26, .ref ma27, .int 0, .ref ma29, .ref ma30, .ref ma31, .ref ma32, .ref ma33, .int 0, .ref ma35, .ref ma36, .int 0, .ref ma38, .int 0, .int 0, .int 0, .int 0, .int 0, .long 0, .int 0, .int 0, .int (-1), .int (-1), .int 0, .ref ma50, .ref ma51, .int 0, .int 0, .ref ma54, .ref ma55, .int (-1), .ref ma57, .ref ma58, .ref ma59, .ref ma60, .int 0, .int 0, .int 0, .ref ma64]))] := hD
  obtain rfl := hw
  refine lv_aload_n hx hb dL_law_246 rfl (lv_at hl 1 rfl) ?_
  have hPc := hP.sub (ws' := [(mh0, .inr (12, [.int 0, .ref ma1, .ref ma2, .ref ma3, .ref ma4, .ref ma5, .int 0, .ref ma7, .ref ma8, .int 0, .ref ma10, .ref ma11, .ref ma12, .ref ma13, .int 0, .ref ma15, .ref ma16, .ref ma17, .ref ma18, .ref ma19, .ref ma20, .ref ma21, .ref ma22, .int 0, .ref ma24, .int 0, .ref ma26, .ref ma27, .int 0, .ref ma29, .ref ma30, .ref ma31, .ref ma32, .ref ma33, .int 0, .ref ma35, .ref ma36, .int 0, .ref ma38, .int 0, .int 0, .int 0, .int 0, .int 0, .long 0, .int 0, .int 0, .int (-1), .int (-1), .int 0, .ref ma50, .ref ma51, .int 0, .int 0, .ref ma54, .ref ma55, .int (-1), .ref ma57, .ref ma58, .ref ma59, .ref ma60, .int 0, .int 0, .int 0, .ref ma64]))]) [0] rfl
  have hDc := hD.sub (ws' := [(mh0, .inr (12, [.int 0, .ref ma1, .ref ma2, .ref ma3, .ref ma4, .ref ma5, .int 0, .ref ma7, .ref ma8, .int 0, .ref ma10, .ref ma11, .ref ma12, .ref ma13, .int 0, .ref ma15, .ref ma16, .ref ma17, .ref ma18, .ref ma19, .ref ma20, .ref ma21, .ref ma22, .int 0, .ref ma24, .int 0, .ref ma26, .ref ma27, .int 0, .ref ma29, .ref ma30, .ref ma31, .ref ma32, .ref ma33, .int 0, .ref ma35, .ref ma36, .int 0, .ref ma38, .int 0, .int 0, .int 0, .int 0, .int 0, .long 0, .int 0, .int 0, .int (-1), .int (-1), .int 0, .ref ma50, .ref ma51, .int 0, .int 0, .ref ma54, .ref ma55, .int (-1), .ref ma57, .ref ma58, .ref ma59, .ref ma60, .int 0, .int 0, .int 0, .ref ma64]))]) [0] (by decide) rfl
  have hKc := hK.sub (tys' := []) [] rfl
  have hFc := va_free (wc := [(mh0, .inr (12, [.int 0, .ref ma1, .ref ma2, .ref ma3, .ref ma4, .ref ma5, .int 0, .ref ma7, .ref ma8, .int 0, .ref ma10, .ref ma11, .ref ma12, .ref ma13, .int 0, .ref ma15, .ref ma16, .ref ma17, .ref ma18, .ref ma19, .ref ma20, .ref ma21, .ref ma22, .int 0, .ref ma24, .int 0, .ref ma26, .ref ma27, .int 0, .ref ma29, .ref ma30, .ref ma31, .ref ma32, .ref ma33, .int 0, .ref ma35, .ref ma36, .int 0, .ref ma38, .int 0, .int 0, .int 0, .int 0, .int 0, .long 0, .int 0, .int 0, .int (-1), .int (-1), .int 0, .ref ma50, .ref ma51, .int 0, .int 0, .ref ma54, .ref ma55, .int (-1), .ref ma57, .ref ma58, .ref ma59, .ref ma60, .int 0, .int 0, .int 0, .ref ma64]))]) hD hS hA [0] rfl
  refine va_calli (va_runV (As := []) (rest := [.int (-1)]) ⟨hx, hb, hml, hown, hts⟩ (m_lens l dC dI H.size mh0 ma1 ma2 ma3 ma4 ma5 ma7 ma8 ma10 ma11 ma12 ma13 ma15 ma16 ma17 ma18 ma19 ma20 ma21 ma22 ma24 ma26 ma27 ma29 ma30 ma31 ma32 ma33 ma35 ma36 ma38 ma50 ma51 ma54 ma55 ma57 ma58 ma59 ma60 ma64) (cwV 0 hts gcase_2_27 rfl rfl rfl (by decide +kernel) ⟨Nat.le_of_ble_eq_true rfl, Nat.le_of_ble_eq_true rfl⟩) ⟨fun a U g mk q => by obtain ⟨q0, q1, qP, qK, qD⟩ := q; exact ⟨q0, q1, qP, va_K.moved (u := U) (U := U.calling g mk a) (Vm.Alike.refl U.vm) qK, qD⟩, va_recv hK hP (ci := 12) (q0 := 0) rfl rfl, fun U hU hW => ⟨rfl, by rw [hU], by rw [hU]; exact hPc, va_K.moved hW.alike hKc, hDc.weaken (fun _ _ _ _ => trivial)⟩⟩ rfl rfl hl.1 rfl (lv_room (Nat.le_of_ble_eq_true rfl)) dL_law_247 ⟨Nat.le_of_ble_eq_true rfl, Nat.le_of_ble_eq_true rfl⟩) hS (fun q _ h => hFc q h) hFc (fun r_4 u t H1 locs ht hvm hw hB hz1 hk1 hS => ?_)
  obtain ⟨hP1, hK1, hD1⟩ := hB
  rw [ht] at hP1
  try dsimp only at hw
  obtain ⟨hP, hD⟩ := va_join (wr := []) (w1 := []) hP hD [0] [] rfl rfl (by decide) (by decide) hk1 hFc hP1 hD1
  clear hk1 hz1 hPc hDc hFc hP1 hD1 hK1 hKc
  generalize H1 = H at hP hS ⊢
  have hP : va_P (dC, dI) cls [] H := hP
  have hD : va_D (fun q : Nat => s.heap.size ≤ q) [] := hD
  obtain rfl := hw
  refine lv_icmp_eq (tgt := 1218) hx hb dL_law_250 (by decide) (fun c_5 => ?_) (fun c_5 => ?_)
  rotate_left
  · exact (by revert c_5; decide : False).elim
  exact law_tail l C0 hS (Nat.le_of_ble_eq_true rfl) (Nat.le_of_ble_eq_true rfl) (lv_sub hl [3, 0] rfl)
theorem gcase_3_28g : GoodIn lwS wk_fault := goodIn_r _ [308, 190, 309, 310, 311, 57, 58, 59, 60, 61, 62, 63, 64, 65, 66, 67, 68, 69, 70, 118, 119, 120, 121, 122, 123] (by decide +kernel) (by decide +kernel)
theorem gcase_3_28 : GoodIn lwS (wsV RL 28 RX11 yX11_fault wk_fault) := goodIn_app (goodIn_r _ [312, 313, 314, 202] (by decide +kernel) (by decide +kernel)) gcase_3_28g
theorem gcase_3_32g : GoodIn lwS wm_fault := goodIn_r _ [315, 204, 264, 263, 262, 124, 125, 126, 127, 128, 129, 130, 131, 132, 133, 134, 135, 136, 137, 138, 139, 140, 141, 142, 143, 144, 145, 146, 147, 148, 149, 150, 151, 152, 153, 154, 155, 156, 157, 158, 159, 160, 161, 162, 163, 164, 165, 166, 167, 168, 169, 170, 171, 172, 173, 174, 175, 176, 177, 178, 179, 180, 181, 182, 183, 184, 185, 186, 187, 188] (by decide +kernel) (by decide +kernel)
theorem gcase_3_32 : GoodIn lwS (wsV RL 32 RX12 yX12_fault wm_fault) := goodIn_app (goodIn_r _ [316, 317, 318, 210] (by decide +kernel) (by decide +kernel)) gcase_3_32g
set_option maxHeartbeats 4000000 in
set_option maxRecDepth 100000 in
theorem case_3 {p : Program} {e : Env} {s : State} {m : MethodId} {below : List Frame} {meth : Method} {c : Code} (l : Launch) {b : Nat} {xs : Nat → Int32} (C0 : lw_At p s m meth c b 6 xs) (dC : Nat → ClassId) (dI : Nat → Nat → Nat) (mh0 : Nat) (xh0 : Nat) (xsl : Nat) (xwalker_ : Nat) (xrd : Nat) (xmachine_ : Nat) (xtrial_ : Nat) (xdk : Nat) (xlenses_ : Nat) (xtp : Nat) (xnames_ : Nat) (xquoted_ : Nat) (xlinks_ : Nat) (xwalker2_ : Nat) (ma1 : Nat) (ma2 : Nat) (ma3 : Nat) (ma4 : Nat) (ma5 : Nat) (ma7 : Nat) (ma8 : Nat) (ma10 : Nat) (ma11 : Nat) (ma12 : Nat) (ma13 : Nat) (ma15 : Nat) (ma16 : Nat) (ma17 : Nat) (ma18 : Nat) (ma19 : Nat) (ma20 : Nat) (ma21 : Nat) (ma22 : Nat) (ma24 : Nat) (ma26 : Nat) (ma27 : Nat) (ma29 : Nat) (ma30 : Nat) (ma31 : Nat) (ma32 : Nat) (ma33 : Nat) (ma35 : Nat) (ma36 : Nat) (ma38 : Nat) (ma50 : Nat) (ma51 : Nat) (ma54 : Nat) (ma55 : Nat) (ma57 : Nat) (ma58 : Nat) (ma59 : Nat) (ma60 : Nat) (ma64 : Nat) {H : Heap} {locs : List Loc} {ls : Array Slot} (hK : va_K (dC, dI) cls [] s) (hP : va_P (dC, dI) cls [(xh0, .inr (11, [.ref xsl, .ref xwalker_, .ref xrd, .ref xmachine_, .ref xtrial_, .ref xdk])), (xrd, .inr (4, [.ref xlenses_, .int 0, .int 0, .int 0, .int (-1), .int (-1), .ref xtp, .ref xnames_, .ref xquoted_, .ref xlinks_, .ref xwalker2_, .int 0, .int 0, .int 0])), (mh0, .inr (12, [.int 0, .ref ma1, .ref ma2, .ref ma3, .ref ma4, .ref ma5, .int 0, .ref ma7, .ref ma8, .int 0, .ref ma10, .ref ma11, .ref ma12, .ref ma13, .int 0, .ref ma15, .ref ma16, .ref ma17, .ref ma18, .ref ma19, .ref ma20, .ref ma21, .ref ma22, .int 0, .ref ma24, .int 0, .ref ma26, .ref ma27, .int 0, .ref ma29, .ref ma30, .ref ma31, .ref ma32, .ref ma33, .int 0, .ref ma35, .ref ma36, .int 0, .ref ma38, .int 0, .int 0, .int 0, .int 0, .int 0, .long 0, .int 0, .int 0, .int (-1), .int (-1), .int 0, .ref ma50, .ref ma51, .int 0, .int 0, .ref ma54, .ref ma55, .int (-1), .ref ma57, .ref ma58, .ref ma59, .ref ma60, .int 0, .int 0, .int 0, .ref ma64]))] H) (hD : va_D (fun q : Nat => s.heap.size ≤ q) [(xh0, .inr (11, [.ref xsl, .ref xwalker_, .ref xrd, .ref xmachine_, .ref xtrial_, .ref xdk])), (xrd, .inr (4, [.ref xlenses_, .int 0, .int 0, .int 0, .int (-1), .int (-1), .ref xtp, .ref xnames_, .ref xquoted_, .ref xlinks_, .ref xwalker2_, .int 0, .int 0, .int 0])), (mh0, .inr (12, [.int 0, .ref ma1, .ref ma2, .ref ma3, .ref ma4, .ref ma5, .int 0, .ref ma7, .ref ma8, .int 0, .ref ma10, .ref ma11, .ref ma12, .ref ma13, .int 0, .ref ma15, .ref ma16, .ref ma17, .ref ma18, .ref ma19, .ref ma20, .ref ma21, .ref ma22, .int 0, .ref ma24, .int 0, .ref ma26, .ref ma27, .int 0, .ref ma29, .ref ma30, .ref ma31, .ref ma32, .ref ma33, .int 0, .ref ma35, .ref ma36, .int 0, .ref ma38, .int 0, .int 0, .int 0, .int 0, .int 0, .long 0, .int 0, .int 0, .int (-1), .int (-1), .int 0, .ref ma50, .ref ma51, .int 0, .int 0, .ref ma54, .ref ma55, .int (-1), .ref ma57, .ref ma58, .ref ma59, .ref ma60, .int 0, .int 0, .int 0, .ref ma64]))]) (hS : va_S (fun q : Nat => s.heap.size ≤ q) s.heap H locs) (hl : lv_has ls 4 [(3, .int 0), (2, .ref mh0), (1, .ref xh0), (0, .ref b)]) : W p l e room_1 s m #[Value.ref b] below meth c H locs 185 1243858 (lw_Z below #[Value.ref b] s) (F0 m 255 ls []) := by
  obtain ⟨hx, hb, hr, hml, hown0, hts0, hX, hbl, hlocks, hgv⟩ := id C0
  have hown : s.vm.findClass RL = some m.cls := hown0
  have hts : ∀ w ∈ lwS, w.before #[Value.ref b] s = true := fun w h => hts0 w (wsL_law_in w h)
  have hA : ∀ q : Nat, s.heap.size ≤ q → (fun q : Nat => s.heap.size ≤ q) q := fun _ h => h
  have hbA : ¬ (fun q : Nat => s.heap.size ≤ q) b := Nat.not_le.mpr hbl
  refine lv_aload_n hx hb dL_law_255 rfl (lv_at hl 2 rfl) ?_
  refine lv_aload_n hx hb dL_law_256 rfl (lv_at hl 3 rfl) ?_
  refine lv_iload_n hx hb dL_law_257 rfl (lv_at hl 0 rfl) ?_
  refine lv_iconst (v := 1) hx hb dL_law_258 (by decide) ?_
  refine lv_iadd hx hb dL_law_259 ?_
  refine lv_topi (fun z_1 ez_1 => ?_)
  obtain rfl : z_1 = (1 : Int32) := ez_1.trans (by decide)
  refine va_sld hx hb hX hbl hbA hS (by unfold vp_in; decide) dL_law_260 ?_
  have hPc := hP.sub (ws' := [(xh0, .inr (11, [.ref xsl, .ref xwalker_, .ref xrd, .ref xmachine_, .ref xtrial_, .ref xdk])), (xrd, .inr (4, [.ref xlenses_, .int 0, .int 0, .int 0, .int (-1), .int (-1), .ref xtp, .ref xnames_, .ref xquoted_, .ref xlinks_, .ref xwalker2_, .int 0, .int 0, .int 0]))]) [0, 1] rfl
  have hDc := hD.sub (ws' := [(xh0, .inr (11, [.ref xsl, .ref xwalker_, .ref xrd, .ref xmachine_, .ref xtrial_, .ref xdk])), (xrd, .inr (4, [.ref xlenses_, .int 0, .int 0, .int 0, .int (-1), .int (-1), .ref xtp, .ref xnames_, .ref xquoted_, .ref xlinks_, .ref xwalker2_, .int 0, .int 0, .int 0]))]) [0, 1] (by decide) rfl
  have hKc := hK.sub (tys' := []) [] rfl
  have hFc := va_free (wc := [(xh0, .inr (11, [.ref xsl, .ref xwalker_, .ref xrd, .ref xmachine_, .ref xtrial_, .ref xdk])), (xrd, .inr (4, [.ref xlenses_, .int 0, .int 0, .int 0, .int (-1), .int (-1), .ref xtp, .ref xnames_, .ref xquoted_, .ref xlinks_, .ref xwalker2_, .int 0, .int 0, .int 0]))]) hD hS hA [0, 1] rfl
  refine va_calli (va_runV (As := [.int (xs (1 : Int32).toNatClampNeg)]) (rest := []) ⟨hx, hb, hml, hown, hts⟩ (k_fault l dC dI H.size xh0 (xs (1 : Int32).toNatClampNeg) xsl xwalker_ xrd xmachine_ xtrial_ xdk xlenses_ xtp xnames_ xquoted_ xlinks_ xwalker2_) (cwV 1 hts gcase_3_28 rfl rfl rfl (by decide +kernel) ⟨Nat.le_of_ble_eq_true rfl, Nat.le_of_ble_eq_true rfl⟩) ⟨fun a U g mk q => by obtain ⟨q0, q1, qP, qK, qD⟩ := q; exact ⟨q0, q1, qP, va_K.moved (u := U) (U := U.calling g mk a) (Vm.Alike.refl U.vm) qK, qD⟩, va_recv hK hP (ci := 11) (q0 := 0) rfl rfl, fun U hU hW => ⟨rfl, by rw [hU], by rw [hU]; exact hPc, va_K.moved hW.alike hKc, hDc.weaken (fun _ _ _ _ => trivial)⟩⟩ rfl rfl hl.1 rfl (lv_room (Nat.le_of_ble_eq_true rfl)) dL_law_261 ⟨Nat.le_of_ble_eq_true rfl, Nat.le_of_ble_eq_true rfl⟩) hS (fun q _ h => hFc q h) hFc (fun r_3 u t H1 locs ht hvm hw hB hz1 hk1 hS => ?_)
  obtain ⟨hP1, hK1, hD1⟩ := hB
  rw [ht] at hP1
  try dsimp only at hw
  obtain ⟨hP, hD⟩ := va_join (wr := [(mh0, .inr (12, [.int 0, .ref ma1, .ref ma2, .ref ma3, .ref ma4, .ref ma5, .int 0, .ref ma7, .ref ma8, .int 0, .ref ma10, .ref ma11, .ref ma12, .ref ma13, .int 0, .ref ma15, .ref ma16, .ref ma17, .ref ma18, .ref ma19, .ref ma20, .ref ma21, .ref ma22, .int 0, .ref ma24, .int 0, .ref ma26, .ref ma27, .int 0, .ref ma29, .ref ma30, .ref ma31, .ref ma32, .ref ma33, .int 0, .ref ma35, .ref ma36, .int 0, .ref ma38, .int 0, .int 0, .int 0, .int 0, .int 0, .long 0, .int 0, .int 0, .int (-1), .int (-1), .int 0, .ref ma50, .ref ma51, .int 0, .int 0, .ref ma54, .ref ma55, .int (-1), .ref ma57, .ref ma58, .ref ma59, .ref ma60, .int 0, .int 0, .int 0, .ref ma64]))]) (w1 := []) hP hD [0, 1] [2] rfl rfl (by decide) (by decide) hk1 hFc hP1 hD1
  clear hk1 hz1 hPc hDc hFc hP1 hD1 hK1 hKc
  generalize H1 = H at hP hS ⊢
  have hP : va_P (dC, dI) cls [(mh0, .inr (12, [.int 0, .ref ma1, .ref ma2, .ref ma3, .ref ma4, .ref ma5, .int 0, .ref ma7, .ref ma8, .int 0, .ref ma10, .ref ma11, .ref ma12, .ref ma13, .int 0, .ref ma15, .ref ma16, .ref ma17, .ref ma18, .ref ma19, .ref ma20, .ref ma21, .ref ma22, .int 0, .ref ma24, .int 0, .ref ma26, .ref ma27, .int 0, .ref ma29, .ref ma30, .ref ma31, .ref ma32, .ref ma33, .int 0, .ref ma35, .ref ma36, .int 0, .ref ma38, .int 0, .int 0, .int 0, .int 0, .int 0, .long 0, .int 0, .int 0, .int (-1), .int (-1), .int 0, .ref ma50, .ref ma51, .int 0, .int 0, .ref ma54, .ref ma55, .int (-1), .ref ma57, .ref ma58, .ref ma59, .ref ma60, .int 0, .int 0, .int 0, .ref ma64]))] H := hP
  have hD : va_D (fun q : Nat => s.heap.size ≤ q) [(mh0, .inr (12, [.int 0, .ref ma1, .ref ma2, .ref ma3, .ref ma4, .ref ma5, .int 0, .ref ma7, .ref ma8, .int 0, .ref ma10, .ref ma11, .ref ma12, .ref ma13, .int 0, .ref ma15, .ref ma16, .ref ma17, .ref ma18, .ref ma19, .ref ma20, .ref ma21, .ref ma22, .int 0, .ref ma24, .int 0, .ref ma26, .ref ma27, .int 0, .ref ma29, .ref ma30, .ref ma31, .ref ma32, .ref ma33, .int 0, .ref ma35, .ref ma36, .int 0, .ref ma38, .int 0, .int 0, .int 0, .int 0, .int 0, .long 0, .int 0, .int 0, .int (-1), .int (-1), .int 0, .ref ma50, .ref ma51, .int 0, .int 0, .ref ma54, .ref ma55, .int (-1), .ref ma57, .ref ma58, .ref ma59, .ref ma60, .int 0, .int 0, .int 0, .ref ma64]))] := hD
  obtain rfl := hw
  refine lv_aload_n hx hb dL_law_264 rfl (lv_at hl 1 rfl) ?_
  refine lv_aload_n hx hb dL_law_265 rfl (lv_at hl 3 rfl) ?_
  refine lv_iload_n hx hb dL_law_266 rfl (lv_at hl 0 rfl) ?_
  refine lv_iconst (v := 1) hx hb dL_law_267 (by decide) ?_
  refine lv_iadd hx hb dL_law_268 ?_
  refine lv_topi (fun z_4 ez_4 => ?_)
  obtain rfl : z_4 = (1 : Int32) := ez_4.trans (by decide)
  refine va_sld hx hb hX hbl hbA hS (by unfold vp_in; decide) dL_law_269 ?_
  have hPc := hP.sub (ws' := [(mh0, .inr (12, [.int 0, .ref ma1, .ref ma2, .ref ma3, .ref ma4, .ref ma5, .int 0, .ref ma7, .ref ma8, .int 0, .ref ma10, .ref ma11, .ref ma12, .ref ma13, .int 0, .ref ma15, .ref ma16, .ref ma17, .ref ma18, .ref ma19, .ref ma20, .ref ma21, .ref ma22, .int 0, .ref ma24, .int 0, .ref ma26, .ref ma27, .int 0, .ref ma29, .ref ma30, .ref ma31, .ref ma32, .ref ma33, .int 0, .ref ma35, .ref ma36, .int 0, .ref ma38, .int 0, .int 0, .int 0, .int 0, .int 0, .long 0, .int 0, .int 0, .int (-1), .int (-1), .int 0, .ref ma50, .ref ma51, .int 0, .int 0, .ref ma54, .ref ma55, .int (-1), .ref ma57, .ref ma58, .ref ma59, .ref ma60, .int 0, .int 0, .int 0, .ref ma64]))]) [0] rfl
  have hDc := hD.sub (ws' := [(mh0, .inr (12, [.int 0, .ref ma1, .ref ma2, .ref ma3, .ref ma4, .ref ma5, .int 0, .ref ma7, .ref ma8, .int 0, .ref ma10, .ref ma11, .ref ma12, .ref ma13, .int 0, .ref ma15, .ref ma16, .ref ma17, .ref ma18, .ref ma19, .ref ma20, .ref ma21, .ref ma22, .int 0, .ref ma24, .int 0, .ref ma26, .ref ma27, .int 0, .ref ma29, .ref ma30, .ref ma31, .ref ma32, .ref ma33, .int 0, .ref ma35, .ref ma36, .int 0, .ref ma38, .int 0, .int 0, .int 0, .int 0, .int 0, .long 0, .int 0, .int 0, .int (-1), .int (-1), .int 0, .ref ma50, .ref ma51, .int 0, .int 0, .ref ma54, .ref ma55, .int (-1), .ref ma57, .ref ma58, .ref ma59, .ref ma60, .int 0, .int 0, .int 0, .ref ma64]))]) [0] (by decide) rfl
  have hKc := hK.sub (tys' := []) [] rfl
  have hFc := va_free (wc := [(mh0, .inr (12, [.int 0, .ref ma1, .ref ma2, .ref ma3, .ref ma4, .ref ma5, .int 0, .ref ma7, .ref ma8, .int 0, .ref ma10, .ref ma11, .ref ma12, .ref ma13, .int 0, .ref ma15, .ref ma16, .ref ma17, .ref ma18, .ref ma19, .ref ma20, .ref ma21, .ref ma22, .int 0, .ref ma24, .int 0, .ref ma26, .ref ma27, .int 0, .ref ma29, .ref ma30, .ref ma31, .ref ma32, .ref ma33, .int 0, .ref ma35, .ref ma36, .int 0, .ref ma38, .int 0, .int 0, .int 0, .int 0, .int 0, .long 0, .int 0, .int 0, .int (-1), .int (-1), .int 0, .ref ma50, .ref ma51, .int 0, .int 0, .ref ma54, .ref ma55, .int (-1), .ref ma57, .ref ma58, .ref ma59, .ref ma60, .int 0, .int 0, .int 0, .ref ma64]))]) hD hS hA [0] rfl
  refine va_calli (va_runV (As := [.int (xs (1 : Int32).toNatClampNeg)]) (rest := [.int (sp_fault (xs (1 : Int32).toNatClampNeg))]) ⟨hx, hb, hml, hown, hts⟩ (m_fault l dC dI H.size mh0 (xs (1 : Int32).toNatClampNeg) ma1 ma2 ma3 ma4 ma5 ma7 ma8 ma10 ma11 ma12 ma13 ma15 ma16 ma17 ma18 ma19 ma20 ma21 ma22 ma24 ma26 ma27 ma29 ma30 ma31 ma32 ma33 ma35 ma36 ma38 ma50 ma51 ma54 ma55 ma57 ma58 ma59 ma60 ma64) (cwV 1 hts gcase_3_32 rfl rfl rfl (by decide +kernel) ⟨Nat.le_of_ble_eq_true rfl, Nat.le_of_ble_eq_true rfl⟩) ⟨fun a U g mk q => by obtain ⟨q0, q1, qP, qK, qD⟩ := q; exact ⟨q0, q1, qP, va_K.moved (u := U) (U := U.calling g mk a) (Vm.Alike.refl U.vm) qK, qD⟩, va_recv hK hP (ci := 12) (q0 := 0) rfl rfl, fun U hU hW => ⟨rfl, by rw [hU], by rw [hU]; exact hPc, va_K.moved hW.alike hKc, hDc.weaken (fun _ _ _ _ => trivial)⟩⟩ rfl rfl hl.1 rfl (lv_room (Nat.le_of_ble_eq_true rfl)) dL_law_270 ⟨Nat.le_of_ble_eq_true rfl, Nat.le_of_ble_eq_true rfl⟩) hS (fun q _ h => hFc q h) hFc (fun r_6 u t H1 locs ht hvm hw hB hz1 hk1 hS => ?_)
  obtain ⟨hP1, hK1, hD1⟩ := hB
  rw [ht] at hP1
  try dsimp only at hw
  obtain ⟨hP, hD⟩ := va_join (wr := []) (w1 := []) hP hD [0] [] rfl rfl (by decide) (by decide) hk1 hFc hP1 hD1
  clear hk1 hz1 hPc hDc hFc hP1 hD1 hK1 hKc
  generalize H1 = H at hP hS ⊢
  have hP : va_P (dC, dI) cls [] H := hP
  have hD : va_D (fun q : Nat => s.heap.size ≤ q) [] := hD
  obtain rfl := hw
  refine lv_icmp_eq (tgt := 1218) hx hb dL_law_273 (by decide) (fun c_7 => ?_) (fun c_7 => ?_)
  rotate_left
  · exact absurd rfl c_7
  exact law_tail l C0 hS (Nat.le_of_ble_eq_true rfl) (Nat.le_of_ble_eq_true rfl) (lv_sub hl [3, 0] rfl)
theorem gcase_4_33g : GoodIn lwS wk_text := goodIn_r _ [319, 320, 321, 322, 202, 323, 324, 190, 325, 326, 327, 195, 328, 197, 329, 330, 331, 332, 333, 334, 335, 336, 337, 191, 338, 57, 58, 59, 60, 61, 62, 63, 64, 65, 66, 67, 68, 69, 70, 78, 79, 118, 119, 120, 121, 122, 123] (by decide +kernel) (by decide +kernel)
theorem gcase_4_33 : GoodIn lwS (wsV RL 33 RX11 yX11_text wk_text) := goodIn_app (goodIn_r _ [339, 340, 341, 202] (by decide +kernel) (by decide +kernel)) gcase_4_33g
theorem gcase_4_36g : GoodIn lwS wn_text := goodIn_r _ [342, 204, 205, 343, 344, 345, 210, 346, 347, 216, 217, 218, 219, 348, 124, 125, 126, 127, 128, 129, 130, 131, 132, 133, 134, 135, 136, 137, 138, 139, 140, 141, 142, 143, 144, 145, 146, 147, 148, 149, 150, 151, 152, 153, 154, 155, 156, 157, 158, 159, 160, 161, 162, 163, 164, 165, 166, 167, 168, 169, 170, 171, 172, 173, 174, 175, 176, 177, 178, 179, 180, 181, 182, 183, 184, 185, 186, 187, 188] (by decide +kernel) (by decide +kernel)
theorem gcase_4_36 : GoodIn lwS (wsV RL 36 RX12 yX12_text wn_text) := goodIn_app (goodIn_r _ [349, 350, 351, 210] (by decide +kernel) (by decide +kernel)) gcase_4_36g
set_option maxHeartbeats 4000000 in
set_option maxRecDepth 100000 in
theorem case_4 {p : Program} {e : Env} {s : State} {m : MethodId} {below : List Frame} {meth : Method} {c : Code} (l : Launch) {b : Nat} {xs : Nat → Int32} (C0 : lw_At p s m meth c b 6 xs) (dC : Nat → ClassId) (dI : Nat → Nat → Nat) (mh0 : Nat) (xh0 : Nat) (xsl : Nat) (xwalker_ : Nat) (xrd : Nat) (xmachine_ : Nat) (xtrial_ : Nat) (xdk : Nat) (xcT : ClassId) (xfT : Nat → Option Nat) (xlenses_ : Nat) (xtp : Nat) (xnames_ : Nat) (xquoted_ : Nat) (xlinks_ : Nat) (xwalker2_ : Nat) (ma1 : Nat) (ma2 : Nat) (ma3 : Nat) (ma4 : Nat) (ma5 : Nat) (ma7 : Nat) (ma8 : Nat) (ma10 : Nat) (ma11 : Nat) (ma12 : Nat) (ma13 : Nat) (ma15 : Nat) (ma16 : Nat) (ma17 : Nat) (ma18 : Nat) (ma19 : Nat) (ma20 : Nat) (ma21 : Nat) (ma22 : Nat) (ma24 : Nat) (ma26 : Nat) (ma27 : Nat) (ma29 : Nat) (ma30 : Nat) (ma31 : Nat) (ma32 : Nat) (ma33 : Nat) (ma35 : Nat) (ma36 : Nat) (ma38 : Nat) (ma50 : Nat) (ma51 : Nat) (ma54 : Nat) (ma55 : Nat) (ma57 : Nat) (ma58 : Nat) (ma59 : Nat) (ma60 : Nat) (ma64 : Nat) (mcI : ClassId) (ws : va_W) (tl : List (ClassId × FieldType)) (k0 : Nat) (he0 : ws[k0]? = some (xh0, .inr (11, [.ref xsl, .ref xwalker_, .ref xrd, .ref xmachine_, .ref xtrial_, .ref xdk]))) (k1 : Nat) (he1 : ws[k1]? = some (xsl, .inl (xcT, 8, .inr (.inr (.inr (.inr xfT)))))) (k2 : Nat) (he2 : ws[k2]? = some (xrd, .inr (4, [.ref xlenses_, .int 0, .int 0, .int 0, .int (-1), .int (-1), .ref xtp, .ref xnames_, .ref xquoted_, .ref xlinks_, .ref xwalker2_, .int 0, .int 0, .int 0]))) (k3 : Nat) (he3 : ws[k3]? = some (mh0, .inr (12, [.int 0, .ref ma1, .ref ma2, .ref ma3, .ref ma4, .ref ma5, .int 0, .ref ma7, .ref ma8, .int 0, .ref ma10, .ref ma11, .ref ma12, .ref ma13, .int 0, .ref ma15, .ref ma16, .ref ma17, .ref ma18, .ref ma19, .ref ma20, .ref ma21, .ref ma22, .int 0, .ref ma24, .int 0, .ref ma26, .ref ma27, .int 0, .ref ma29, .ref ma30, .ref ma31, .ref ma32, .ref ma33, .int 0, .ref ma35, .ref ma36, .int 0, .ref ma38, .int 0, .int 0, .int 0, .int 0, .int 0, .long 0, .int 0, .int 0, .int (-1), .int (-1), .int 0, .ref ma50, .ref ma51, .int 0, .int 0, .ref ma54, .ref ma55, .int (-1), .ref ma57, .ref ma58, .ref ma59, .ref ma60, .int 0, .int 0, .int 0, .ref ma64]))) (k4 : Nat) (he4 : ws[k4]? = some (ma51, .inl (mcI, 8, .inl (fun _ => 0)))) (t0 : Nat) (ht0 : tl[t0]? = some (xcT, .object RX6)) (t1 : Nat) (ht1 : tl[t1]? = some (mcI, .int)) (hfs0 : ∀ i : Int32, inS i → ∃ (t r : Nat) (cc1 : ClassId) (g1 : Nat → Int32) (k k2 k3 : Nat), xfT i.toNatClampNeg = some t ∧ ws[k]? = some (t, .inr (6, [.ref r, .int 0])) ∧ ws[k2]? = some (r, .inl (cc1, 60, .inl g1)) ∧ tl[k3]? = some (cc1, .byte)) {H : Heap} {locs : List Loc} {ls : Array Slot} (hK : va_K (dC, dI) cls tl s) (hP : va_P (dC, dI) cls ws H) (hD : va_D (fun q : Nat => s.heap.size ≤ q) ws) (hS : va_S (fun q : Nat => s.heap.size ≤ q) s.heap H locs) (hl : lv_has ls 4 [(3, .int 0), (2, .ref mh0), (1, .ref xh0), (0, .ref b)]) : W p l e room_1 s m #[Value.ref b] below meth c H locs 185 1243858 (lw_Z below #[Value.ref b] s) (F0 m 278 ls []) := by
  obtain ⟨hx, hb, hr, hml, hown0, hts0, hX, hbl, hlocks, hgv⟩ := id C0
  have hown : s.vm.findClass RL = some m.cls := hown0
  have hts : ∀ w ∈ lwS, w.before #[Value.ref b] s = true := fun w h => hts0 w (wsL_law_in w h)
  have hA : ∀ q : Nat, s.heap.size ≤ q → (fun q : Nat => s.heap.size ≤ q) q := fun _ h => h
  have hbA : ¬ (fun q : Nat => s.heap.size ≤ q) b := Nat.not_le.mpr hbl
  refine lv_aload_n hx hb dL_law_278 rfl (lv_at hl 2 rfl) ?_
  refine lv_aload_n hx hb dL_law_279 rfl (lv_at hl 3 rfl) ?_
  refine lv_iload_n hx hb dL_law_280 rfl (lv_at hl 0 rfl) ?_
  refine lv_iconst (v := 1) hx hb dL_law_281 (by decide) ?_
  refine lv_iadd hx hb dL_law_282 ?_
  refine lv_topi (fun z_1 ez_1 => ?_)
  obtain rfl : z_1 = (1 : Int32) := ez_1.trans (by decide)
  refine va_sld hx hb hX hbl hbA hS (by unfold vp_in; decide) dL_law_283 ?_
  have hFc := zFree hD hS hA
  refine va_calli (va_runV (As := [.int (xs (1 : Int32).toNatClampNeg)]) (rest := []) ⟨hx, hb, hml, hown, hts⟩ (k_text l dC dI H.size xh0 (xs (1 : Int32).toNatClampNeg) xsl xwalker_ xrd xmachine_ xtrial_ xdk xcT xfT xlenses_ xtp xnames_ xquoted_ xlinks_ xwalker2_ ws tl k0 he0 k1 he1 k2 he2 t0 ht0 hfs0) (cwV 1 hts gcase_4_33 rfl rfl rfl (by decide +kernel) ⟨Nat.le_of_ble_eq_true rfl, Nat.le_of_ble_eq_true rfl⟩) ⟨fun a U g mk q => by obtain ⟨q0, q1, qP, qK, qD⟩ := q; exact ⟨q0, q1, qP, va_K.moved (u := U) (U := U.calling g mk a) (Vm.Alike.refl U.vm) qK, qD⟩, va_recv hK hP (ci := 11) (q0 := k0) rfl he0, fun U hU hW => ⟨rfl, by rw [hU], by rw [hU]; exact hP, va_K.moved hW.alike hK, hD.weaken (fun _ _ _ _ => trivial)⟩⟩ rfl rfl hl.1 rfl (lv_room (Nat.le_of_ble_eq_true rfl)) dL_law_284 ⟨Nat.le_of_ble_eq_true rfl, Nat.le_of_ble_eq_true rfl⟩) hS (fun q _ h => hFc q h) hFc (fun r_2 u t H1 locs ht hvm hw hB hz1 hk1 hS => ?_)
  obtain ⟨hP, hK1, hD1⟩ := hB
  rw [ht] at hP
  try dsimp only at hw
  clear hk1 hz1 hFc hD1 hK1
  generalize H1 = H at hP hS ⊢
  obtain rfl := hw
  refine lv_aload_n hx hb dL_law_287 rfl (lv_at hl 1 rfl) ?_
  refine lv_aload_n hx hb dL_law_288 rfl (lv_at hl 3 rfl) ?_
  refine lv_iload_n hx hb dL_law_289 rfl (lv_at hl 0 rfl) ?_
  refine lv_iconst (v := 1) hx hb dL_law_290 (by decide) ?_
  refine lv_iadd hx hb dL_law_291 ?_
  refine lv_topi (fun z_3 ez_3 => ?_)
  obtain rfl : z_3 = (1 : Int32) := ez_3.trans (by decide)
  refine va_sld hx hb hX hbl hbA hS (by unfold vp_in; decide) dL_law_292 ?_
  have hFc := zFree hD hS hA
  refine va_calli (va_runV (As := [.int (xs (1 : Int32).toNatClampNeg)]) (rest := [.int (sp_text (xs (1 : Int32).toNatClampNeg))]) ⟨hx, hb, hml, hown, hts⟩ (n_text l dC dI H.size mh0 (xs (1 : Int32).toNatClampNeg) ma1 ma2 ma3 ma4 ma5 ma7 ma8 ma10 ma11 ma12 ma13 ma15 ma16 ma17 ma18 ma19 ma20 ma21 ma22 ma24 ma26 ma27 ma29 ma30 ma31 ma32 ma33 ma35 ma36 ma38 ma50 ma51 ma54 ma55 ma57 ma58 ma59 ma60 ma64 mcI ws tl k3 he3 k4 he4 t1 ht1) (cwV 1 hts gcase_4_36 rfl rfl rfl (by decide +kernel) ⟨Nat.le_of_ble_eq_true rfl, Nat.le_of_ble_eq_true rfl⟩) ⟨fun a U g mk q => by obtain ⟨q0, q1, qP, qK, qD⟩ := q; exact ⟨q0, q1, qP, va_K.moved (u := U) (U := U.calling g mk a) (Vm.Alike.refl U.vm) qK, qD⟩, va_recv hK hP (ci := 12) (q0 := k3) rfl he3, fun U hU hW => ⟨rfl, by rw [hU], by rw [hU]; exact hP, va_K.moved hW.alike hK, hD.weaken (fun _ _ _ _ => trivial)⟩⟩ rfl rfl hl.1 rfl (lv_room (Nat.le_of_ble_eq_true rfl)) dL_law_293 ⟨Nat.le_of_ble_eq_true rfl, Nat.le_of_ble_eq_true rfl⟩) hS (fun q _ h => hFc q h) hFc (fun r_4 u t H1 locs ht hvm hw hB hz1 hk1 hS => ?_)
  obtain ⟨hP, hK1, hD1⟩ := hB
  rw [ht] at hP
  try dsimp only at hw
  clear hk1 hz1 hFc hD1 hK1
  generalize H1 = H at hP hS ⊢
  obtain rfl := hw
  refine lv_icmp_eq (tgt := 1218) hx hb dL_law_296 (by decide) (fun c_5 => ?_) (fun c_5 => ?_)
  rotate_left
  · exact absurd rfl c_5
  exact law_tail l C0 hS (Nat.le_of_ble_eq_true rfl) (Nat.le_of_ble_eq_true rfl) (lv_sub hl [3, 0] rfl)
theorem gcase_5_37g : GoodIn lwS wk_symbol := goodIn_r _ [352, 320, 321, 322, 202, 323, 324, 338, 78, 79, 118, 119, 120, 121, 122, 123] (by decide +kernel) (by decide +kernel)
theorem gcase_5_37 : GoodIn lwS (wsV RL 37 RX11 yX11_symbol wk_symbol) := goodIn_app (goodIn_r _ [353, 354, 355, 202] (by decide +kernel) (by decide +kernel)) gcase_5_37g
theorem gcase_5_41g : GoodIn lwS wn_symbol := goodIn_r _ [356, 204, 343, 344, 345, 210, 346, 347, 216, 217, 218, 219, 348, 124, 125, 126, 127, 128, 129, 130, 131, 132, 133, 134, 135, 136, 137, 138, 139, 140, 141, 142, 143, 144, 145, 146, 147, 148, 149, 150, 151, 152, 153, 154, 155, 156, 157, 158, 159, 160, 161, 162, 163, 164, 165, 166, 167, 168, 169, 170, 171, 172, 173, 174, 175, 176, 177, 178, 179, 180, 181, 182, 183, 184, 185, 186, 187, 188] (by decide +kernel) (by decide +kernel)
theorem gcase_5_41 : GoodIn lwS (wsV RL 41 RX12 yX12_symbol wn_symbol) := goodIn_app (goodIn_r _ [357, 358, 359, 210] (by decide +kernel) (by decide +kernel)) gcase_5_41g
set_option maxHeartbeats 4000000 in
set_option maxRecDepth 100000 in
theorem case_5 {p : Program} {e : Env} {s : State} {m : MethodId} {below : List Frame} {meth : Method} {c : Code} (l : Launch) {b : Nat} {xs : Nat → Int32} (C0 : lw_At p s m meth c b 6 xs) (dC : Nat → ClassId) (dI : Nat → Nat → Nat) (mh0 : Nat) (xh0 : Nat) (xsl : Nat) (xwalker_ : Nat) (xrd : Nat) (xmachine_ : Nat) (xtrial_ : Nat) (xdk : Nat) (xcT : ClassId) (xfT : Nat → Option Nat) (ma1 : Nat) (ma2 : Nat) (ma3 : Nat) (ma4 : Nat) (ma5 : Nat) (ma7 : Nat) (ma8 : Nat) (ma10 : Nat) (ma11 : Nat) (ma12 : Nat) (ma13 : Nat) (ma15 : Nat) (ma16 : Nat) (ma17 : Nat) (ma18 : Nat) (ma19 : Nat) (ma20 : Nat) (ma21 : Nat) (ma22 : Nat) (ma24 : Nat) (ma26 : Nat) (ma27 : Nat) (ma29 : Nat) (ma30 : Nat) (ma31 : Nat) (ma32 : Nat) (ma33 : Nat) (ma35 : Nat) (ma36 : Nat) (ma38 : Nat) (ma50 : Nat) (ma51 : Nat) (ma54 : Nat) (ma55 : Nat) (ma57 : Nat) (ma58 : Nat) (ma59 : Nat) (ma60 : Nat) (ma64 : Nat) (mcI : ClassId) (ws : va_W) (tl : List (ClassId × FieldType)) (k0 : Nat) (he0 : ws[k0]? = some (xh0, .inr (11, [.ref xsl, .ref xwalker_, .ref xrd, .ref xmachine_, .ref xtrial_, .ref xdk]))) (k1 : Nat) (he1 : ws[k1]? = some (xsl, .inl (xcT, 8, .inr (.inr (.inr (.inr xfT)))))) (k2 : Nat) (he2 : ws[k2]? = some (mh0, .inr (12, [.int 0, .ref ma1, .ref ma2, .ref ma3, .ref ma4, .ref ma5, .int 0, .ref ma7, .ref ma8, .int 0, .ref ma10, .ref ma11, .ref ma12, .ref ma13, .int 0, .ref ma15, .ref ma16, .ref ma17, .ref ma18, .ref ma19, .ref ma20, .ref ma21, .ref ma22, .int 0, .ref ma24, .int 0, .ref ma26, .ref ma27, .int 0, .ref ma29, .ref ma30, .ref ma31, .ref ma32, .ref ma33, .int 0, .ref ma35, .ref ma36, .int 0, .ref ma38, .int 0, .int 0, .int 0, .int 0, .int 0, .long 0, .int 0, .int 0, .int (-1), .int (-1), .int 0, .ref ma50, .ref ma51, .int 0, .int 0, .ref ma54, .ref ma55, .int (-1), .ref ma57, .ref ma58, .ref ma59, .ref ma60, .int 0, .int 0, .int 0, .ref ma64]))) (k3 : Nat) (he3 : ws[k3]? = some (ma51, .inl (mcI, 8, .inl (fun _ => 0)))) (t0 : Nat) (ht0 : tl[t0]? = some (xcT, .object RX6)) (t1 : Nat) (ht1 : tl[t1]? = some (mcI, .int)) (hfs0 : ∀ i : Int32, inS i → ∃ (t r : Nat) (cc1 : ClassId) (g1 : Nat → Int32) (k k2 k3 : Nat), xfT i.toNatClampNeg = some t ∧ ws[k]? = some (t, .inr (6, [.ref r, .int 0])) ∧ ws[k2]? = some (r, .inl (cc1, 60, .inl g1)) ∧ tl[k3]? = some (cc1, .byte)) {H : Heap} {locs : List Loc} {ls : Array Slot} (hK : va_K (dC, dI) cls tl s) (hP : va_P (dC, dI) cls ws H) (hD : va_D (fun q : Nat => s.heap.size ≤ q) ws) (hS : va_S (fun q : Nat => s.heap.size ≤ q) s.heap H locs) (hl : lv_has ls 4 [(3, .int 0), (2, .ref mh0), (1, .ref xh0), (0, .ref b)]) : W p l e room_1 s m #[Value.ref b] below meth c H locs 185 1243858 (lw_Z below #[Value.ref b] s) (F0 m 301 ls []) := by
  obtain ⟨hx, hb, hr, hml, hown0, hts0, hX, hbl, hlocks, hgv⟩ := id C0
  have hown : s.vm.findClass RL = some m.cls := hown0
  have hts : ∀ w ∈ lwS, w.before #[Value.ref b] s = true := fun w h => hts0 w (wsL_law_in w h)
  have hA : ∀ q : Nat, s.heap.size ≤ q → (fun q : Nat => s.heap.size ≤ q) q := fun _ h => h
  have hbA : ¬ (fun q : Nat => s.heap.size ≤ q) b := Nat.not_le.mpr hbl
  refine lv_aload_n hx hb dL_law_301 rfl (lv_at hl 2 rfl) ?_
  refine lv_aload_n hx hb dL_law_302 rfl (lv_at hl 3 rfl) ?_
  refine lv_iload_n hx hb dL_law_303 rfl (lv_at hl 0 rfl) ?_
  refine lv_iconst (v := 1) hx hb dL_law_304 (by decide) ?_
  refine lv_iadd hx hb dL_law_305 ?_
  refine lv_topi (fun z_1 ez_1 => ?_)
  obtain rfl : z_1 = (1 : Int32) := ez_1.trans (by decide)
  refine va_sld hx hb hX hbl hbA hS (by unfold vp_in; decide) dL_law_306 ?_
  refine lv_aload_n hx hb dL_law_307 rfl (lv_at hl 3 rfl) ?_
  refine lv_iload_n hx hb dL_law_308 rfl (lv_at hl 0 rfl) ?_
  refine lv_iconst (v := 2) hx hb dL_law_309 (by decide) ?_
  refine lv_iadd hx hb dL_law_310 ?_
  refine lv_topi (fun z_2 ez_2 => ?_)
  obtain rfl : z_2 = (2 : Int32) := ez_2.trans (by decide)
  refine va_sld hx hb hX hbl hbA hS (by unfold vp_in; decide) dL_law_311 ?_
  have hFc := zFree hD hS hA
  refine va_calli (va_runV (As := [.int (xs (1 : Int32).toNatClampNeg), .int (xs (2 : Int32).toNatClampNeg)]) (rest := []) ⟨hx, hb, hml, hown, hts⟩ (k_symbol l dC dI H.size xh0 (xs (1 : Int32).toNatClampNeg) (xs (2 : Int32).toNatClampNeg) xsl xwalker_ xrd xmachine_ xtrial_ xdk xcT xfT ws tl k0 he0 k1 he1 t0 ht0 hfs0) (cwV 2 hts gcase_5_37 rfl rfl rfl (by decide +kernel) ⟨Nat.le_of_ble_eq_true rfl, Nat.le_of_ble_eq_true rfl⟩) ⟨fun a U g mk q => by obtain ⟨q0, q1, qP, qK, qD⟩ := q; exact ⟨q0, q1, qP, va_K.moved (u := U) (U := U.calling g mk a) (Vm.Alike.refl U.vm) qK, qD⟩, va_recv hK hP (ci := 11) (q0 := k0) rfl he0, fun U hU hW => ⟨rfl, by rw [hU], by rw [hU]; exact hP, va_K.moved hW.alike hK, hD.weaken (fun _ _ _ _ => trivial)⟩⟩ rfl rfl hl.1 rfl (lv_room (Nat.le_of_ble_eq_true rfl)) dL_law_312 ⟨Nat.le_of_ble_eq_true rfl, Nat.le_of_ble_eq_true rfl⟩) hS (fun q _ h => hFc q h) hFc (fun r_3 u t H1 locs ht hvm hw hB hz1 hk1 hS => ?_)
  obtain ⟨hP, hK1, hD1⟩ := hB
  rw [ht] at hP
  try dsimp only at hw
  clear hk1 hz1 hFc hD1 hK1
  generalize H1 = H at hP hS ⊢
  obtain rfl := hw
  refine lv_aload_n hx hb dL_law_315 rfl (lv_at hl 1 rfl) ?_
  refine lv_aload_n hx hb dL_law_316 rfl (lv_at hl 3 rfl) ?_
  refine lv_iload_n hx hb dL_law_317 rfl (lv_at hl 0 rfl) ?_
  refine lv_iconst (v := 1) hx hb dL_law_318 (by decide) ?_
  refine lv_iadd hx hb dL_law_319 ?_
  refine lv_topi (fun z_4 ez_4 => ?_)
  obtain rfl : z_4 = (1 : Int32) := ez_4.trans (by decide)
  refine va_sld hx hb hX hbl hbA hS (by unfold vp_in; decide) dL_law_320 ?_
  refine lv_aload_n hx hb dL_law_321 rfl (lv_at hl 3 rfl) ?_
  refine lv_iload_n hx hb dL_law_322 rfl (lv_at hl 0 rfl) ?_
  refine lv_iconst (v := 2) hx hb dL_law_323 (by decide) ?_
  refine lv_iadd hx hb dL_law_324 ?_
  refine lv_topi (fun z_5 ez_5 => ?_)
  obtain rfl : z_5 = (2 : Int32) := ez_5.trans (by decide)
  refine va_sld hx hb hX hbl hbA hS (by unfold vp_in; decide) dL_law_325 ?_
  have hFc := zFree hD hS hA
  refine va_calli (va_runV (As := [.int (xs (1 : Int32).toNatClampNeg), .int (xs (2 : Int32).toNatClampNeg)]) (rest := [.int (sp_symbol (xs (1 : Int32).toNatClampNeg) (xs (2 : Int32).toNatClampNeg))]) ⟨hx, hb, hml, hown, hts⟩ (n_symbol l dC dI H.size mh0 (xs (1 : Int32).toNatClampNeg) (xs (2 : Int32).toNatClampNeg) ma1 ma2 ma3 ma4 ma5 ma7 ma8 ma10 ma11 ma12 ma13 ma15 ma16 ma17 ma18 ma19 ma20 ma21 ma22 ma24 ma26 ma27 ma29 ma30 ma31 ma32 ma33 ma35 ma36 ma38 ma50 ma51 ma54 ma55 ma57 ma58 ma59 ma60 ma64 mcI ws tl k2 he2 k3 he3 t1 ht1) (cwV 2 hts gcase_5_41 rfl rfl rfl (by decide +kernel) ⟨Nat.le_of_ble_eq_true rfl, Nat.le_of_ble_eq_true rfl⟩) ⟨fun a U g mk q => by obtain ⟨q0, q1, qP, qK, qD⟩ := q; exact ⟨q0, q1, qP, va_K.moved (u := U) (U := U.calling g mk a) (Vm.Alike.refl U.vm) qK, qD⟩, va_recv hK hP (ci := 12) (q0 := k2) rfl he2, fun U hU hW => ⟨rfl, by rw [hU], by rw [hU]; exact hP, va_K.moved hW.alike hK, hD.weaken (fun _ _ _ _ => trivial)⟩⟩ rfl rfl hl.1 rfl (lv_room (Nat.le_of_ble_eq_true rfl)) dL_law_326 ⟨Nat.le_of_ble_eq_true rfl, Nat.le_of_ble_eq_true rfl⟩) hS (fun q _ h => hFc q h) hFc (fun r_6 u t H1 locs ht hvm hw hB hz1 hk1 hS => ?_)
  obtain ⟨hP, hK1, hD1⟩ := hB
  rw [ht] at hP
  try dsimp only at hw
  clear hk1 hz1 hFc hD1 hK1
  generalize H1 = H at hP hS ⊢
  obtain rfl := hw
  refine lv_icmp_eq (tgt := 1218) hx hb dL_law_329 (by decide) (fun c_7 => ?_) (fun c_7 => ?_)
  rotate_left
  · exact absurd rfl c_7
  exact law_tail l C0 hS (Nat.le_of_ble_eq_true rfl) (Nat.le_of_ble_eq_true rfl) (lv_sub hl [3, 0] rfl)
theorem gcase_6_42g : GoodIn lwS wk_fits := goodIn_r _ [360, 361, 362, 363, 202, 364, 365, 366, 367, 368, 190, 369, 320, 321, 322, 323, 324, 57, 58, 59, 60, 61, 62, 63, 64, 65, 66, 67, 68, 69, 70, 118, 119, 120, 121, 122, 123] (by decide +kernel) (by decide +kernel)
theorem gcase_6_42 : GoodIn lwS (wsV RL 42 RX11 yX11_fits wk_fits) := goodIn_app (goodIn_r _ [370, 371, 372, 202] (by decide +kernel) (by decide +kernel)) gcase_6_42g
theorem gcase_6_46g : GoodIn lwS wm_fits := goodIn_r _ [373, 204, 374, 375, 376, 210, 377, 292, 216, 217, 218, 219, 124, 125, 126, 127, 128, 129, 130, 131, 132, 133, 134, 135, 136, 137, 138, 139, 140, 141, 142, 143, 144, 145, 146, 147, 148, 149, 150, 151, 152, 153, 154, 155, 156, 157, 158, 159, 160, 161, 162, 163, 164, 165, 166, 167, 168, 169, 170, 171, 172, 173, 174, 175, 176, 177, 178, 179, 180, 181, 182, 183, 184, 185, 186, 187, 188] (by decide +kernel) (by decide +kernel)
theorem gcase_6_46 : GoodIn lwS (wsV RL 46 RX12 yX12_fits wm_fits) := goodIn_app (goodIn_r _ [378, 379, 380, 210] (by decide +kernel) (by decide +kernel)) gcase_6_46g
set_option maxHeartbeats 4000000 in
set_option maxRecDepth 100000 in
theorem case_6 {p : Program} {e : Env} {s : State} {m : MethodId} {below : List Frame} {meth : Method} {c : Code} (l : Launch) {b : Nat} {xs : Nat → Int32} (C0 : lw_At p s m meth c b 6 xs) (dC : Nat → ClassId) (dI : Nat → Nat → Nat) (mh0 : Nat) (xh0 : Nat) (xsl : Nat) (xwalker_ : Nat) (xrd : Nat) (xmachine_ : Nat) (xtrial_ : Nat) (xdk : Nat) (xcT : ClassId) (xfT : Nat → Option Nat) (xlenses_ : Nat) (xtp : Nat) (xnames_ : Nat) (xquoted_ : Nat) (xlinks_ : Nat) (xwalker2_ : Nat) (ma1 : Nat) (ma2 : Nat) (ma3 : Nat) (ma4 : Nat) (ma5 : Nat) (ma7 : Nat) (ma8 : Nat) (ma10 : Nat) (ma11 : Nat) (ma12 : Nat) (ma13 : Nat) (ma15 : Nat) (ma16 : Nat) (ma17 : Nat) (ma18 : Nat) (ma19 : Nat) (ma20 : Nat) (ma21 : Nat) (ma22 : Nat) (ma24 : Nat) (ma26 : Nat) (ma27 : Nat) (ma29 : Nat) (ma30 : Nat) (ma31 : Nat) (ma32 : Nat) (ma33 : Nat) (ma35 : Nat) (ma36 : Nat) (ma38 : Nat) (ma50 : Nat) (ma51 : Nat) (ma54 : Nat) (ma55 : Nat) (ma57 : Nat) (ma58 : Nat) (ma59 : Nat) (ma60 : Nat) (ma64 : Nat) (hf0 : ∀ i : Int32, inS i → ∃ t, xfT i.toNatClampNeg = some t) {H : Heap} {locs : List Loc} {ls : Array Slot} (hK : va_K (dC, dI) cls [(xcT, .object RX6)] s) (hP : va_P (dC, dI) cls [(xh0, .inr (11, [.ref xsl, .ref xwalker_, .ref xrd, .ref xmachine_, .ref xtrial_, .ref xdk])), (xsl, .inl (xcT, 8, .inr (.inr (.inr (.inr xfT))))), (xrd, .inr (4, [.ref xlenses_, .int 0, .int 0, .int 0, .int (-1), .int (-1), .ref xtp, .ref xnames_, .ref xquoted_, .ref xlinks_, .ref xwalker2_, .int 0, .int 0, .int 0])), (mh0, .inr (12, [.int 0, .ref ma1, .ref ma2, .ref ma3, .ref ma4, .ref ma5, .int 0, .ref ma7, .ref ma8, .int 0, .ref ma10, .ref ma11, .ref ma12, .ref ma13, .int 0, .ref ma15, .ref ma16, .ref ma17, .ref ma18, .ref ma19, .ref ma20, .ref ma21, .ref ma22, .int 0, .ref ma24, .int 0, .ref ma26, .ref ma27, .int 0, .ref ma29, .ref ma30, .ref ma31, .ref ma32, .ref ma33, .int 0, .ref ma35, .ref ma36, .int 0, .ref ma38, .int 0, .int 0, .int 0, .int 0, .int 0, .long 0, .int 0, .int 0, .int (-1), .int (-1), .int 0, .ref ma50, .ref ma51, .int 0, .int 0, .ref ma54, .ref ma55, .int (-1), .ref ma57, .ref ma58, .ref ma59, .ref ma60, .int 0, .int 0, .int 0, .ref ma64]))] H) (hD : va_D (fun q : Nat => s.heap.size ≤ q) [(xh0, .inr (11, [.ref xsl, .ref xwalker_, .ref xrd, .ref xmachine_, .ref xtrial_, .ref xdk])), (xsl, .inl (xcT, 8, .inr (.inr (.inr (.inr xfT))))), (xrd, .inr (4, [.ref xlenses_, .int 0, .int 0, .int 0, .int (-1), .int (-1), .ref xtp, .ref xnames_, .ref xquoted_, .ref xlinks_, .ref xwalker2_, .int 0, .int 0, .int 0])), (mh0, .inr (12, [.int 0, .ref ma1, .ref ma2, .ref ma3, .ref ma4, .ref ma5, .int 0, .ref ma7, .ref ma8, .int 0, .ref ma10, .ref ma11, .ref ma12, .ref ma13, .int 0, .ref ma15, .ref ma16, .ref ma17, .ref ma18, .ref ma19, .ref ma20, .ref ma21, .ref ma22, .int 0, .ref ma24, .int 0, .ref ma26, .ref ma27, .int 0, .ref ma29, .ref ma30, .ref ma31, .ref ma32, .ref ma33, .int 0, .ref ma35, .ref ma36, .int 0, .ref ma38, .int 0, .int 0, .int 0, .int 0, .int 0, .long 0, .int 0, .int 0, .int (-1), .int (-1), .int 0, .ref ma50, .ref ma51, .int 0, .int 0, .ref ma54, .ref ma55, .int (-1), .ref ma57, .ref ma58, .ref ma59, .ref ma60, .int 0, .int 0, .int 0, .ref ma64]))]) (hS : va_S (fun q : Nat => s.heap.size ≤ q) s.heap H locs) (hl : lv_has ls 4 [(3, .int 0), (2, .ref mh0), (1, .ref xh0), (0, .ref b)]) : W p l e room_1 s m #[Value.ref b] below meth c H locs 185 1243858 (lw_Z below #[Value.ref b] s) (F0 m 334 ls []) := by
  obtain ⟨hx, hb, hr, hml, hown0, hts0, hX, hbl, hlocks, hgv⟩ := id C0
  have hown : s.vm.findClass RL = some m.cls := hown0
  have hts : ∀ w ∈ lwS, w.before #[Value.ref b] s = true := fun w h => hts0 w (wsL_law_in w h)
  have hA : ∀ q : Nat, s.heap.size ≤ q → (fun q : Nat => s.heap.size ≤ q) q := fun _ h => h
  have hbA : ¬ (fun q : Nat => s.heap.size ≤ q) b := Nat.not_le.mpr hbl
  refine lv_aload_n hx hb dL_law_334 rfl (lv_at hl 2 rfl) ?_
  refine lv_aload_n hx hb dL_law_335 rfl (lv_at hl 3 rfl) ?_
  refine lv_iload_n hx hb dL_law_336 rfl (lv_at hl 0 rfl) ?_
  refine lv_iconst (v := 1) hx hb dL_law_337 (by decide) ?_
  refine lv_iadd hx hb dL_law_338 ?_
  refine lv_topi (fun z_1 ez_1 => ?_)
  obtain rfl : z_1 = (1 : Int32) := ez_1.trans (by decide)
  refine va_sld hx hb hX hbl hbA hS (by unfold vp_in; decide) dL_law_339 ?_
  refine lv_aload_n hx hb dL_law_340 rfl (lv_at hl 3 rfl) ?_
  refine lv_iload_n hx hb dL_law_341 rfl (lv_at hl 0 rfl) ?_
  refine lv_iconst (v := 2) hx hb dL_law_342 (by decide) ?_
  refine lv_iadd hx hb dL_law_343 ?_
  refine lv_topi (fun z_2 ez_2 => ?_)
  obtain rfl : z_2 = (2 : Int32) := ez_2.trans (by decide)
  refine va_sld hx hb hX hbl hbA hS (by unfold vp_in; decide) dL_law_344 ?_
  refine lv_aload_n hx hb dL_law_345 rfl (lv_at hl 3 rfl) ?_
  refine lv_iload_n hx hb dL_law_346 rfl (lv_at hl 0 rfl) ?_
  refine lv_iconst (v := 3) hx hb dL_law_347 (by decide) ?_
  refine lv_iadd hx hb dL_law_348 ?_
  refine lv_topi (fun z_3 ez_3 => ?_)
  obtain rfl : z_3 = (3 : Int32) := ez_3.trans (by decide)
  refine va_sld hx hb hX hbl hbA hS (by unfold vp_in; decide) dL_law_349 ?_
  have hPc := hP.sub (ws' := [(xh0, .inr (11, [.ref xsl, .ref xwalker_, .ref xrd, .ref xmachine_, .ref xtrial_, .ref xdk])), (xsl, .inl (xcT, 8, .inr (.inr (.inr (.inr xfT))))), (xrd, .inr (4, [.ref xlenses_, .int 0, .int 0, .int 0, .int (-1), .int (-1), .ref xtp, .ref xnames_, .ref xquoted_, .ref xlinks_, .ref xwalker2_, .int 0, .int 0, .int 0]))]) [0, 1, 2] rfl
  have hDc := hD.sub (ws' := [(xh0, .inr (11, [.ref xsl, .ref xwalker_, .ref xrd, .ref xmachine_, .ref xtrial_, .ref xdk])), (xsl, .inl (xcT, 8, .inr (.inr (.inr (.inr xfT))))), (xrd, .inr (4, [.ref xlenses_, .int 0, .int 0, .int 0, .int (-1), .int (-1), .ref xtp, .ref xnames_, .ref xquoted_, .ref xlinks_, .ref xwalker2_, .int 0, .int 0, .int 0]))]) [0, 1, 2] (by decide) rfl
  have hKc := hK.sub (tys' := [(xcT, .object RX6)]) [0] rfl
  have hFc := va_free (wc := [(xh0, .inr (11, [.ref xsl, .ref xwalker_, .ref xrd, .ref xmachine_, .ref xtrial_, .ref xdk])), (xsl, .inl (xcT, 8, .inr (.inr (.inr (.inr xfT))))), (xrd, .inr (4, [.ref xlenses_, .int 0, .int 0, .int 0, .int (-1), .int (-1), .ref xtp, .ref xnames_, .ref xquoted_, .ref xlinks_, .ref xwalker2_, .int 0, .int 0, .int 0]))]) hD hS hA [0, 1, 2] rfl
  refine va_calli (va_runV (As := [.int (xs (1 : Int32).toNatClampNeg), .int (xs (2 : Int32).toNatClampNeg), .int (xs (3 : Int32).toNatClampNeg)]) (rest := []) ⟨hx, hb, hml, hown, hts⟩ (k_fits l dC dI H.size xh0 (xs (1 : Int32).toNatClampNeg) (xs (2 : Int32).toNatClampNeg) (xs (3 : Int32).toNatClampNeg) xsl xwalker_ xrd xmachine_ xtrial_ xdk xcT xfT xlenses_ xtp xnames_ xquoted_ xlinks_ xwalker2_ hf0) (cwV 3 hts gcase_6_42 rfl rfl rfl (by decide +kernel) ⟨Nat.le_of_ble_eq_true rfl, Nat.le_of_ble_eq_true rfl⟩) ⟨fun a U g mk q => by obtain ⟨q0, q1, qP, qK, qD⟩ := q; exact ⟨q0, q1, qP, va_K.moved (u := U) (U := U.calling g mk a) (Vm.Alike.refl U.vm) qK, qD⟩, va_recv hK hP (ci := 11) (q0 := 0) rfl rfl, fun U hU hW => ⟨rfl, by rw [hU], by rw [hU]; exact hPc, va_K.moved hW.alike hKc, hDc.weaken (fun _ _ _ _ => trivial)⟩⟩ rfl rfl hl.1 rfl (lv_room (Nat.le_of_ble_eq_true rfl)) dL_law_350 ⟨Nat.le_of_ble_eq_true rfl, Nat.le_of_ble_eq_true rfl⟩) hS (fun q _ h => hFc q h) hFc (fun r_5 u t H1 locs ht hvm hw hB hz1 hk1 hS => ?_)
  obtain ⟨hP1, hK1, hD1⟩ := hB
  rw [ht] at hP1
  try dsimp only at hw
  obtain ⟨hP, hD⟩ := va_join (wr := [(mh0, .inr (12, [.int 0, .ref ma1, .ref ma2, .ref ma3, .ref ma4, .ref ma5, .int 0, .ref ma7, .ref ma8, .int 0, .ref ma10, .ref ma11, .ref ma12, .ref ma13, .int 0, .ref ma15, .ref ma16, .ref ma17, .ref ma18, .ref ma19, .ref ma20, .ref ma21, .ref ma22, .int 0, .ref ma24, .int 0, .ref ma26, .ref ma27, .int 0, .ref ma29, .ref ma30, .ref ma31, .ref ma32, .ref ma33, .int 0, .ref ma35, .ref ma36, .int 0, .ref ma38, .int 0, .int 0, .int 0, .int 0, .int 0, .long 0, .int 0, .int 0, .int (-1), .int (-1), .int 0, .ref ma50, .ref ma51, .int 0, .int 0, .ref ma54, .ref ma55, .int (-1), .ref ma57, .ref ma58, .ref ma59, .ref ma60, .int 0, .int 0, .int 0, .ref ma64]))]) (w1 := []) hP hD [0, 1, 2] [3] rfl rfl (by decide) (by decide) hk1 hFc hP1 hD1
  clear hk1 hz1 hPc hDc hFc hP1 hD1 hK1 hKc
  generalize H1 = H at hP hS ⊢
  have hP : va_P (dC, dI) cls [(mh0, .inr (12, [.int 0, .ref ma1, .ref ma2, .ref ma3, .ref ma4, .ref ma5, .int 0, .ref ma7, .ref ma8, .int 0, .ref ma10, .ref ma11, .ref ma12, .ref ma13, .int 0, .ref ma15, .ref ma16, .ref ma17, .ref ma18, .ref ma19, .ref ma20, .ref ma21, .ref ma22, .int 0, .ref ma24, .int 0, .ref ma26, .ref ma27, .int 0, .ref ma29, .ref ma30, .ref ma31, .ref ma32, .ref ma33, .int 0, .ref ma35, .ref ma36, .int 0, .ref ma38, .int 0, .int 0, .int 0, .int 0, .int 0, .long 0, .int 0, .int 0, .int (-1), .int (-1), .int 0, .ref ma50, .ref ma51, .int 0, .int 0, .ref ma54, .ref ma55, .int (-1), .ref ma57, .ref ma58, .ref ma59, .ref ma60, .int 0, .int 0, .int 0, .ref ma64]))] H := hP
  have hD : va_D (fun q : Nat => s.heap.size ≤ q) [(mh0, .inr (12, [.int 0, .ref ma1, .ref ma2, .ref ma3, .ref ma4, .ref ma5, .int 0, .ref ma7, .ref ma8, .int 0, .ref ma10, .ref ma11, .ref ma12, .ref ma13, .int 0, .ref ma15, .ref ma16, .ref ma17, .ref ma18, .ref ma19, .ref ma20, .ref ma21, .ref ma22, .int 0, .ref ma24, .int 0, .ref ma26, .ref ma27, .int 0, .ref ma29, .ref ma30, .ref ma31, .ref ma32, .ref ma33, .int 0, .ref ma35, .ref ma36, .int 0, .ref ma38, .int 0, .int 0, .int 0, .int 0, .int 0, .long 0, .int 0, .int 0, .int (-1), .int (-1), .int 0, .ref ma50, .ref ma51, .int 0, .int 0, .ref ma54, .ref ma55, .int (-1), .ref ma57, .ref ma58, .ref ma59, .ref ma60, .int 0, .int 0, .int 0, .ref ma64]))] := hD
  obtain rfl := hw
  refine lv_aload_n hx hb dL_law_353 rfl (lv_at hl 1 rfl) ?_
  refine lv_aload_n hx hb dL_law_354 rfl (lv_at hl 3 rfl) ?_
  refine lv_iload_n hx hb dL_law_355 rfl (lv_at hl 0 rfl) ?_
  refine lv_iconst (v := 1) hx hb dL_law_356 (by decide) ?_
  refine lv_iadd hx hb dL_law_357 ?_
  refine lv_topi (fun z_6 ez_6 => ?_)
  obtain rfl : z_6 = (1 : Int32) := ez_6.trans (by decide)
  refine va_sld hx hb hX hbl hbA hS (by unfold vp_in; decide) dL_law_358 ?_
  refine lv_aload_n hx hb dL_law_359 rfl (lv_at hl 3 rfl) ?_
  refine lv_iload_n hx hb dL_law_360 rfl (lv_at hl 0 rfl) ?_
  refine lv_iconst (v := 2) hx hb dL_law_361 (by decide) ?_
  refine lv_iadd hx hb dL_law_362 ?_
  refine lv_topi (fun z_7 ez_7 => ?_)
  obtain rfl : z_7 = (2 : Int32) := ez_7.trans (by decide)
  refine va_sld hx hb hX hbl hbA hS (by unfold vp_in; decide) dL_law_363 ?_
  refine lv_aload_n hx hb dL_law_364 rfl (lv_at hl 3 rfl) ?_
  refine lv_iload_n hx hb dL_law_365 rfl (lv_at hl 0 rfl) ?_
  refine lv_iconst (v := 3) hx hb dL_law_366 (by decide) ?_
  refine lv_iadd hx hb dL_law_367 ?_
  refine lv_topi (fun z_8 ez_8 => ?_)
  obtain rfl : z_8 = (3 : Int32) := ez_8.trans (by decide)
  refine va_sld hx hb hX hbl hbA hS (by unfold vp_in; decide) dL_law_368 ?_
  have hPc := hP.sub (ws' := [(mh0, .inr (12, [.int 0, .ref ma1, .ref ma2, .ref ma3, .ref ma4, .ref ma5, .int 0, .ref ma7, .ref ma8, .int 0, .ref ma10, .ref ma11, .ref ma12, .ref ma13, .int 0, .ref ma15, .ref ma16, .ref ma17, .ref ma18, .ref ma19, .ref ma20, .ref ma21, .ref ma22, .int 0, .ref ma24, .int 0, .ref ma26, .ref ma27, .int 0, .ref ma29, .ref ma30, .ref ma31, .ref ma32, .ref ma33, .int 0, .ref ma35, .ref ma36, .int 0, .ref ma38, .int 0, .int 0, .int 0, .int 0, .int 0, .long 0, .int 0, .int 0, .int (-1), .int (-1), .int 0, .ref ma50, .ref ma51, .int 0, .int 0, .ref ma54, .ref ma55, .int (-1), .ref ma57, .ref ma58, .ref ma59, .ref ma60, .int 0, .int 0, .int 0, .ref ma64]))]) [0] rfl
  have hDc := hD.sub (ws' := [(mh0, .inr (12, [.int 0, .ref ma1, .ref ma2, .ref ma3, .ref ma4, .ref ma5, .int 0, .ref ma7, .ref ma8, .int 0, .ref ma10, .ref ma11, .ref ma12, .ref ma13, .int 0, .ref ma15, .ref ma16, .ref ma17, .ref ma18, .ref ma19, .ref ma20, .ref ma21, .ref ma22, .int 0, .ref ma24, .int 0, .ref ma26, .ref ma27, .int 0, .ref ma29, .ref ma30, .ref ma31, .ref ma32, .ref ma33, .int 0, .ref ma35, .ref ma36, .int 0, .ref ma38, .int 0, .int 0, .int 0, .int 0, .int 0, .long 0, .int 0, .int 0, .int (-1), .int (-1), .int 0, .ref ma50, .ref ma51, .int 0, .int 0, .ref ma54, .ref ma55, .int (-1), .ref ma57, .ref ma58, .ref ma59, .ref ma60, .int 0, .int 0, .int 0, .ref ma64]))]) [0] (by decide) rfl
  have hKc := hK.sub (tys' := []) [] rfl
  have hFc := va_free (wc := [(mh0, .inr (12, [.int 0, .ref ma1, .ref ma2, .ref ma3, .ref ma4, .ref ma5, .int 0, .ref ma7, .ref ma8, .int 0, .ref ma10, .ref ma11, .ref ma12, .ref ma13, .int 0, .ref ma15, .ref ma16, .ref ma17, .ref ma18, .ref ma19, .ref ma20, .ref ma21, .ref ma22, .int 0, .ref ma24, .int 0, .ref ma26, .ref ma27, .int 0, .ref ma29, .ref ma30, .ref ma31, .ref ma32, .ref ma33, .int 0, .ref ma35, .ref ma36, .int 0, .ref ma38, .int 0, .int 0, .int 0, .int 0, .int 0, .long 0, .int 0, .int 0, .int (-1), .int (-1), .int 0, .ref ma50, .ref ma51, .int 0, .int 0, .ref ma54, .ref ma55, .int (-1), .ref ma57, .ref ma58, .ref ma59, .ref ma60, .int 0, .int 0, .int 0, .ref ma64]))]) hD hS hA [0] rfl
  refine va_calli (va_runV (As := [.int (xs (1 : Int32).toNatClampNeg), .int (xs (2 : Int32).toNatClampNeg), .int (xs (3 : Int32).toNatClampNeg)]) (rest := [.int (-1)]) ⟨hx, hb, hml, hown, hts⟩ (m_fits l dC dI H.size mh0 (xs (1 : Int32).toNatClampNeg) (xs (2 : Int32).toNatClampNeg) (xs (3 : Int32).toNatClampNeg) ma1 ma2 ma3 ma4 ma5 ma7 ma8 ma10 ma11 ma12 ma13 ma15 ma16 ma17 ma18 ma19 ma20 ma21 ma22 ma24 ma26 ma27 ma29 ma30 ma31 ma32 ma33 ma35 ma36 ma38 ma50 ma51 ma54 ma55 ma57 ma58 ma59 ma60 ma64) (cwV 3 hts gcase_6_46 rfl rfl rfl (by decide +kernel) ⟨Nat.le_of_ble_eq_true rfl, Nat.le_of_ble_eq_true rfl⟩) ⟨fun a U g mk q => by obtain ⟨q0, q1, qP, qK, qD⟩ := q; exact ⟨q0, q1, qP, va_K.moved (u := U) (U := U.calling g mk a) (Vm.Alike.refl U.vm) qK, qD⟩, va_recv hK hP (ci := 12) (q0 := 0) rfl rfl, fun U hU hW => ⟨rfl, by rw [hU], by rw [hU]; exact hPc, va_K.moved hW.alike hKc, hDc.weaken (fun _ _ _ _ => trivial)⟩⟩ rfl rfl hl.1 rfl (lv_room (Nat.le_of_ble_eq_true rfl)) dL_law_369 ⟨Nat.le_of_ble_eq_true rfl, Nat.le_of_ble_eq_true rfl⟩) hS (fun q _ h => hFc q h) hFc (fun r_10 u t H1 locs ht hvm hw hB hz1 hk1 hS => ?_)
  obtain ⟨hP1, hK1, hD1⟩ := hB
  rw [ht] at hP1
  try dsimp only at hw
  obtain ⟨hP, hD⟩ := va_join (wr := []) (w1 := []) hP hD [0] [] rfl rfl (by decide) (by decide) hk1 hFc hP1 hD1
  clear hk1 hz1 hPc hDc hFc hP1 hD1 hK1 hKc
  generalize H1 = H at hP hS ⊢
  have hP : va_P (dC, dI) cls [] H := hP
  have hD : va_D (fun q : Nat => s.heap.size ≤ q) [] := hD
  obtain rfl := hw
  refine lv_icmp_eq (tgt := 1218) hx hb dL_law_372 (by decide) (fun c_11 => ?_) (fun c_11 => ?_)
  rotate_left
  · exact (by revert c_11; decide : False).elim
  exact law_tail l C0 hS (Nat.le_of_ble_eq_true rfl) (Nat.le_of_ble_eq_true rfl) (lv_sub hl [3, 0] rfl)
theorem gcase_7_47g : GoodIn lwS wk_get := goodIn_r _ [381, 365, 366, 367, 202, 368, 190, 369, 320, 321, 322, 323, 324, 57, 58, 59, 60, 61, 62, 63, 64, 65, 66, 67, 68, 69, 70, 118, 119, 120, 121, 122, 123] (by decide +kernel) (by decide +kernel)
theorem gcase_7_47 : GoodIn lwS (wsV RL 47 RX11 yX11_get wk_get) := goodIn_app (goodIn_r _ [382, 383, 384, 202] (by decide +kernel) (by decide +kernel)) gcase_7_47g
theorem gcase_7_50g : GoodIn lwS wm_get := goodIn_r _ [385, 204, 374, 375, 376, 210, 377, 292, 216, 217, 218, 219, 124, 125, 126, 127, 128, 129, 130, 131, 132, 133, 134, 135, 136, 137, 138, 139, 140, 141, 142, 143, 144, 145, 146, 147, 148, 149, 150, 151, 152, 153, 154, 155, 156, 157, 158, 159, 160, 161, 162, 163, 164, 165, 166, 167, 168, 169, 170, 171, 172, 173, 174, 175, 176, 177, 178, 179, 180, 181, 182, 183, 184, 185, 186, 187, 188] (by decide +kernel) (by decide +kernel)
theorem gcase_7_50 : GoodIn lwS (wsV RL 50 RX12 yX12_get wm_get) := goodIn_app (goodIn_r _ [386, 387, 388, 210] (by decide +kernel) (by decide +kernel)) gcase_7_50g
set_option maxHeartbeats 4000000 in
set_option maxRecDepth 100000 in
theorem case_7 {p : Program} {e : Env} {s : State} {m : MethodId} {below : List Frame} {meth : Method} {c : Code} (l : Launch) {b : Nat} {xs : Nat → Int32} (C0 : lw_At p s m meth c b 6 xs) (dC : Nat → ClassId) (dI : Nat → Nat → Nat) (mh0 : Nat) (xh0 : Nat) (xsl : Nat) (xwalker_ : Nat) (xrd : Nat) (xmachine_ : Nat) (xtrial_ : Nat) (xdk : Nat) (xcT : ClassId) (xfT : Nat → Option Nat) (xlenses_ : Nat) (xtp : Nat) (xnames_ : Nat) (xquoted_ : Nat) (xlinks_ : Nat) (xwalker2_ : Nat) (ma1 : Nat) (ma2 : Nat) (ma3 : Nat) (ma4 : Nat) (ma5 : Nat) (ma7 : Nat) (ma8 : Nat) (ma10 : Nat) (ma11 : Nat) (ma12 : Nat) (ma13 : Nat) (ma15 : Nat) (ma16 : Nat) (ma17 : Nat) (ma18 : Nat) (ma19 : Nat) (ma20 : Nat) (ma21 : Nat) (ma22 : Nat) (ma24 : Nat) (ma26 : Nat) (ma27 : Nat) (ma29 : Nat) (ma30 : Nat) (ma31 : Nat) (ma32 : Nat) (ma33 : Nat) (ma35 : Nat) (ma36 : Nat) (ma38 : Nat) (ma50 : Nat) (ma51 : Nat) (ma54 : Nat) (ma55 : Nat) (ma57 : Nat) (ma58 : Nat) (ma59 : Nat) (ma60 : Nat) (ma64 : Nat) (hf0 : ∀ i : Int32, inS i → ∃ t, xfT i.toNatClampNeg = some t) {H : Heap} {locs : List Loc} {ls : Array Slot} (hK : va_K (dC, dI) cls [(xcT, .object RX6)] s) (hP : va_P (dC, dI) cls [(xh0, .inr (11, [.ref xsl, .ref xwalker_, .ref xrd, .ref xmachine_, .ref xtrial_, .ref xdk])), (xsl, .inl (xcT, 8, .inr (.inr (.inr (.inr xfT))))), (xrd, .inr (4, [.ref xlenses_, .int 0, .int 0, .int 0, .int (-1), .int (-1), .ref xtp, .ref xnames_, .ref xquoted_, .ref xlinks_, .ref xwalker2_, .int 0, .int 0, .int 0])), (mh0, .inr (12, [.int 0, .ref ma1, .ref ma2, .ref ma3, .ref ma4, .ref ma5, .int 0, .ref ma7, .ref ma8, .int 0, .ref ma10, .ref ma11, .ref ma12, .ref ma13, .int 0, .ref ma15, .ref ma16, .ref ma17, .ref ma18, .ref ma19, .ref ma20, .ref ma21, .ref ma22, .int 0, .ref ma24, .int 0, .ref ma26, .ref ma27, .int 0, .ref ma29, .ref ma30, .ref ma31, .ref ma32, .ref ma33, .int 0, .ref ma35, .ref ma36, .int 0, .ref ma38, .int 0, .int 0, .int 0, .int 0, .int 0, .long 0, .int 0, .int 0, .int (-1), .int (-1), .int 0, .ref ma50, .ref ma51, .int 0, .int 0, .ref ma54, .ref ma55, .int (-1), .ref ma57, .ref ma58, .ref ma59, .ref ma60, .int 0, .int 0, .int 0, .ref ma64]))] H) (hD : va_D (fun q : Nat => s.heap.size ≤ q) [(xh0, .inr (11, [.ref xsl, .ref xwalker_, .ref xrd, .ref xmachine_, .ref xtrial_, .ref xdk])), (xsl, .inl (xcT, 8, .inr (.inr (.inr (.inr xfT))))), (xrd, .inr (4, [.ref xlenses_, .int 0, .int 0, .int 0, .int (-1), .int (-1), .ref xtp, .ref xnames_, .ref xquoted_, .ref xlinks_, .ref xwalker2_, .int 0, .int 0, .int 0])), (mh0, .inr (12, [.int 0, .ref ma1, .ref ma2, .ref ma3, .ref ma4, .ref ma5, .int 0, .ref ma7, .ref ma8, .int 0, .ref ma10, .ref ma11, .ref ma12, .ref ma13, .int 0, .ref ma15, .ref ma16, .ref ma17, .ref ma18, .ref ma19, .ref ma20, .ref ma21, .ref ma22, .int 0, .ref ma24, .int 0, .ref ma26, .ref ma27, .int 0, .ref ma29, .ref ma30, .ref ma31, .ref ma32, .ref ma33, .int 0, .ref ma35, .ref ma36, .int 0, .ref ma38, .int 0, .int 0, .int 0, .int 0, .int 0, .long 0, .int 0, .int 0, .int (-1), .int (-1), .int 0, .ref ma50, .ref ma51, .int 0, .int 0, .ref ma54, .ref ma55, .int (-1), .ref ma57, .ref ma58, .ref ma59, .ref ma60, .int 0, .int 0, .int 0, .ref ma64]))]) (hS : va_S (fun q : Nat => s.heap.size ≤ q) s.heap H locs) (hl : lv_has ls 4 [(3, .int 0), (2, .ref mh0), (1, .ref xh0), (0, .ref b)]) : W p l e room_1 s m #[Value.ref b] below meth c H locs 185 1243858 (lw_Z below #[Value.ref b] s) (F0 m 377 ls []) := by
  obtain ⟨hx, hb, hr, hml, hown0, hts0, hX, hbl, hlocks, hgv⟩ := id C0
  have hown : s.vm.findClass RL = some m.cls := hown0
  have hts : ∀ w ∈ lwS, w.before #[Value.ref b] s = true := fun w h => hts0 w (wsL_law_in w h)
  have hA : ∀ q : Nat, s.heap.size ≤ q → (fun q : Nat => s.heap.size ≤ q) q := fun _ h => h
  have hbA : ¬ (fun q : Nat => s.heap.size ≤ q) b := Nat.not_le.mpr hbl
  refine lv_aload_n hx hb dL_law_377 rfl (lv_at hl 2 rfl) ?_
  refine lv_aload_n hx hb dL_law_378 rfl (lv_at hl 3 rfl) ?_
  refine lv_iload_n hx hb dL_law_379 rfl (lv_at hl 0 rfl) ?_
  refine lv_iconst (v := 1) hx hb dL_law_380 (by decide) ?_
  refine lv_iadd hx hb dL_law_381 ?_
  refine lv_topi (fun z_1 ez_1 => ?_)
  obtain rfl : z_1 = (1 : Int32) := ez_1.trans (by decide)
  refine va_sld hx hb hX hbl hbA hS (by unfold vp_in; decide) dL_law_382 ?_
  refine lv_aload_n hx hb dL_law_383 rfl (lv_at hl 3 rfl) ?_
  refine lv_iload_n hx hb dL_law_384 rfl (lv_at hl 0 rfl) ?_
  refine lv_iconst (v := 2) hx hb dL_law_385 (by decide) ?_
  refine lv_iadd hx hb dL_law_386 ?_
  refine lv_topi (fun z_2 ez_2 => ?_)
  obtain rfl : z_2 = (2 : Int32) := ez_2.trans (by decide)
  refine va_sld hx hb hX hbl hbA hS (by unfold vp_in; decide) dL_law_387 ?_
  refine lv_aload_n hx hb dL_law_388 rfl (lv_at hl 3 rfl) ?_
  refine lv_iload_n hx hb dL_law_389 rfl (lv_at hl 0 rfl) ?_
  refine lv_iconst (v := 3) hx hb dL_law_390 (by decide) ?_
  refine lv_iadd hx hb dL_law_391 ?_
  refine lv_topi (fun z_3 ez_3 => ?_)
  obtain rfl : z_3 = (3 : Int32) := ez_3.trans (by decide)
  refine va_sld hx hb hX hbl hbA hS (by unfold vp_in; decide) dL_law_392 ?_
  have hPc := hP.sub (ws' := [(xh0, .inr (11, [.ref xsl, .ref xwalker_, .ref xrd, .ref xmachine_, .ref xtrial_, .ref xdk])), (xsl, .inl (xcT, 8, .inr (.inr (.inr (.inr xfT))))), (xrd, .inr (4, [.ref xlenses_, .int 0, .int 0, .int 0, .int (-1), .int (-1), .ref xtp, .ref xnames_, .ref xquoted_, .ref xlinks_, .ref xwalker2_, .int 0, .int 0, .int 0]))]) [0, 1, 2] rfl
  have hDc := hD.sub (ws' := [(xh0, .inr (11, [.ref xsl, .ref xwalker_, .ref xrd, .ref xmachine_, .ref xtrial_, .ref xdk])), (xsl, .inl (xcT, 8, .inr (.inr (.inr (.inr xfT))))), (xrd, .inr (4, [.ref xlenses_, .int 0, .int 0, .int 0, .int (-1), .int (-1), .ref xtp, .ref xnames_, .ref xquoted_, .ref xlinks_, .ref xwalker2_, .int 0, .int 0, .int 0]))]) [0, 1, 2] (by decide) rfl
  have hKc := hK.sub (tys' := [(xcT, .object RX6)]) [0] rfl
  have hFc := va_free (wc := [(xh0, .inr (11, [.ref xsl, .ref xwalker_, .ref xrd, .ref xmachine_, .ref xtrial_, .ref xdk])), (xsl, .inl (xcT, 8, .inr (.inr (.inr (.inr xfT))))), (xrd, .inr (4, [.ref xlenses_, .int 0, .int 0, .int 0, .int (-1), .int (-1), .ref xtp, .ref xnames_, .ref xquoted_, .ref xlinks_, .ref xwalker2_, .int 0, .int 0, .int 0]))]) hD hS hA [0, 1, 2] rfl
  refine va_calli (va_runV (As := [.int (xs (1 : Int32).toNatClampNeg), .int (xs (2 : Int32).toNatClampNeg), .int (xs (3 : Int32).toNatClampNeg)]) (rest := []) ⟨hx, hb, hml, hown, hts⟩ (k_get l dC dI H.size xh0 (xs (1 : Int32).toNatClampNeg) (xs (2 : Int32).toNatClampNeg) (xs (3 : Int32).toNatClampNeg) xsl xwalker_ xrd xmachine_ xtrial_ xdk xcT xfT xlenses_ xtp xnames_ xquoted_ xlinks_ xwalker2_ hf0) (cwV 3 hts gcase_7_47 rfl rfl rfl (by decide +kernel) ⟨Nat.le_of_ble_eq_true rfl, Nat.le_of_ble_eq_true rfl⟩) ⟨fun a U g mk q => by obtain ⟨q0, q1, qP, qK, qD⟩ := q; exact ⟨q0, q1, qP, va_K.moved (u := U) (U := U.calling g mk a) (Vm.Alike.refl U.vm) qK, qD⟩, va_recv hK hP (ci := 11) (q0 := 0) rfl rfl, fun U hU hW => ⟨rfl, by rw [hU], by rw [hU]; exact hPc, va_K.moved hW.alike hKc, hDc.weaken (fun _ _ _ _ => trivial)⟩⟩ rfl rfl hl.1 rfl (lv_room (Nat.le_of_ble_eq_true rfl)) dL_law_393 ⟨Nat.le_of_ble_eq_true rfl, Nat.le_of_ble_eq_true rfl⟩) hS (fun q _ h => hFc q h) hFc (fun r_5 u t H1 locs ht hvm hw hB hz1 hk1 hS => ?_)
  obtain ⟨hP1, hK1, hD1⟩ := hB
  rw [ht] at hP1
  try dsimp only at hw
  obtain ⟨hP, hD⟩ := va_join (wr := [(mh0, .inr (12, [.int 0, .ref ma1, .ref ma2, .ref ma3, .ref ma4, .ref ma5, .int 0, .ref ma7, .ref ma8, .int 0, .ref ma10, .ref ma11, .ref ma12, .ref ma13, .int 0, .ref ma15, .ref ma16, .ref ma17, .ref ma18, .ref ma19, .ref ma20, .ref ma21, .ref ma22, .int 0, .ref ma24, .int 0, .ref ma26, .ref ma27, .int 0, .ref ma29, .ref ma30, .ref ma31, .ref ma32, .ref ma33, .int 0, .ref ma35, .ref ma36, .int 0, .ref ma38, .int 0, .int 0, .int 0, .int 0, .int 0, .long 0, .int 0, .int 0, .int (-1), .int (-1), .int 0, .ref ma50, .ref ma51, .int 0, .int 0, .ref ma54, .ref ma55, .int (-1), .ref ma57, .ref ma58, .ref ma59, .ref ma60, .int 0, .int 0, .int 0, .ref ma64]))]) (w1 := []) hP hD [0, 1, 2] [3] rfl rfl (by decide) (by decide) hk1 hFc hP1 hD1
  clear hk1 hz1 hPc hDc hFc hP1 hD1 hK1 hKc
  generalize H1 = H at hP hS ⊢
  have hP : va_P (dC, dI) cls [(mh0, .inr (12, [.int 0, .ref ma1, .ref ma2, .ref ma3, .ref ma4, .ref ma5, .int 0, .ref ma7, .ref ma8, .int 0, .ref ma10, .ref ma11, .ref ma12, .ref ma13, .int 0, .ref ma15, .ref ma16, .ref ma17, .ref ma18, .ref ma19, .ref ma20, .ref ma21, .ref ma22, .int 0, .ref ma24, .int 0, .ref ma26, .ref ma27, .int 0, .ref ma29, .ref ma30, .ref ma31, .ref ma32, .ref ma33, .int 0, .ref ma35, .ref ma36, .int 0, .ref ma38, .int 0, .int 0, .int 0, .int 0, .int 0, .long 0, .int 0, .int 0, .int (-1), .int (-1), .int 0, .ref ma50, .ref ma51, .int 0, .int 0, .ref ma54, .ref ma55, .int (-1), .ref ma57, .ref ma58, .ref ma59, .ref ma60, .int 0, .int 0, .int 0, .ref ma64]))] H := hP
  have hD : va_D (fun q : Nat => s.heap.size ≤ q) [(mh0, .inr (12, [.int 0, .ref ma1, .ref ma2, .ref ma3, .ref ma4, .ref ma5, .int 0, .ref ma7, .ref ma8, .int 0, .ref ma10, .ref ma11, .ref ma12, .ref ma13, .int 0, .ref ma15, .ref ma16, .ref ma17, .ref ma18, .ref ma19, .ref ma20, .ref ma21, .ref ma22, .int 0, .ref ma24, .int 0, .ref ma26, .ref ma27, .int 0, .ref ma29, .ref ma30, .ref ma31, .ref ma32, .ref ma33, .int 0, .ref ma35, .ref ma36, .int 0, .ref ma38, .int 0, .int 0, .int 0, .int 0, .int 0, .long 0, .int 0, .int 0, .int (-1), .int (-1), .int 0, .ref ma50, .ref ma51, .int 0, .int 0, .ref ma54, .ref ma55, .int (-1), .ref ma57, .ref ma58, .ref ma59, .ref ma60, .int 0, .int 0, .int 0, .ref ma64]))] := hD
  obtain rfl := hw
  refine lv_aload_n hx hb dL_law_396 rfl (lv_at hl 1 rfl) ?_
  refine lv_aload_n hx hb dL_law_397 rfl (lv_at hl 3 rfl) ?_
  refine lv_iload_n hx hb dL_law_398 rfl (lv_at hl 0 rfl) ?_
  refine lv_iconst (v := 1) hx hb dL_law_399 (by decide) ?_
  refine lv_iadd hx hb dL_law_400 ?_
  refine lv_topi (fun z_6 ez_6 => ?_)
  obtain rfl : z_6 = (1 : Int32) := ez_6.trans (by decide)
  refine va_sld hx hb hX hbl hbA hS (by unfold vp_in; decide) dL_law_401 ?_
  refine lv_aload_n hx hb dL_law_402 rfl (lv_at hl 3 rfl) ?_
  refine lv_iload_n hx hb dL_law_403 rfl (lv_at hl 0 rfl) ?_
  refine lv_iconst (v := 2) hx hb dL_law_404 (by decide) ?_
  refine lv_iadd hx hb dL_law_405 ?_
  refine lv_topi (fun z_7 ez_7 => ?_)
  obtain rfl : z_7 = (2 : Int32) := ez_7.trans (by decide)
  refine va_sld hx hb hX hbl hbA hS (by unfold vp_in; decide) dL_law_406 ?_
  refine lv_aload_n hx hb dL_law_407 rfl (lv_at hl 3 rfl) ?_
  refine lv_iload_n hx hb dL_law_408 rfl (lv_at hl 0 rfl) ?_
  refine lv_iconst (v := 3) hx hb dL_law_409 (by decide) ?_
  refine lv_iadd hx hb dL_law_410 ?_
  refine lv_topi (fun z_8 ez_8 => ?_)
  obtain rfl : z_8 = (3 : Int32) := ez_8.trans (by decide)
  refine va_sld hx hb hX hbl hbA hS (by unfold vp_in; decide) dL_law_411 ?_
  have hPc := hP.sub (ws' := [(mh0, .inr (12, [.int 0, .ref ma1, .ref ma2, .ref ma3, .ref ma4, .ref ma5, .int 0, .ref ma7, .ref ma8, .int 0, .ref ma10, .ref ma11, .ref ma12, .ref ma13, .int 0, .ref ma15, .ref ma16, .ref ma17, .ref ma18, .ref ma19, .ref ma20, .ref ma21, .ref ma22, .int 0, .ref ma24, .int 0, .ref ma26, .ref ma27, .int 0, .ref ma29, .ref ma30, .ref ma31, .ref ma32, .ref ma33, .int 0, .ref ma35, .ref ma36, .int 0, .ref ma38, .int 0, .int 0, .int 0, .int 0, .int 0, .long 0, .int 0, .int 0, .int (-1), .int (-1), .int 0, .ref ma50, .ref ma51, .int 0, .int 0, .ref ma54, .ref ma55, .int (-1), .ref ma57, .ref ma58, .ref ma59, .ref ma60, .int 0, .int 0, .int 0, .ref ma64]))]) [0] rfl
  have hDc := hD.sub (ws' := [(mh0, .inr (12, [.int 0, .ref ma1, .ref ma2, .ref ma3, .ref ma4, .ref ma5, .int 0, .ref ma7, .ref ma8, .int 0, .ref ma10, .ref ma11, .ref ma12, .ref ma13, .int 0, .ref ma15, .ref ma16, .ref ma17, .ref ma18, .ref ma19, .ref ma20, .ref ma21, .ref ma22, .int 0, .ref ma24, .int 0, .ref ma26, .ref ma27, .int 0, .ref ma29, .ref ma30, .ref ma31, .ref ma32, .ref ma33, .int 0, .ref ma35, .ref ma36, .int 0, .ref ma38, .int 0, .int 0, .int 0, .int 0, .int 0, .long 0, .int 0, .int 0, .int (-1), .int (-1), .int 0, .ref ma50, .ref ma51, .int 0, .int 0, .ref ma54, .ref ma55, .int (-1), .ref ma57, .ref ma58, .ref ma59, .ref ma60, .int 0, .int 0, .int 0, .ref ma64]))]) [0] (by decide) rfl
  have hKc := hK.sub (tys' := []) [] rfl
  have hFc := va_free (wc := [(mh0, .inr (12, [.int 0, .ref ma1, .ref ma2, .ref ma3, .ref ma4, .ref ma5, .int 0, .ref ma7, .ref ma8, .int 0, .ref ma10, .ref ma11, .ref ma12, .ref ma13, .int 0, .ref ma15, .ref ma16, .ref ma17, .ref ma18, .ref ma19, .ref ma20, .ref ma21, .ref ma22, .int 0, .ref ma24, .int 0, .ref ma26, .ref ma27, .int 0, .ref ma29, .ref ma30, .ref ma31, .ref ma32, .ref ma33, .int 0, .ref ma35, .ref ma36, .int 0, .ref ma38, .int 0, .int 0, .int 0, .int 0, .int 0, .long 0, .int 0, .int 0, .int (-1), .int (-1), .int 0, .ref ma50, .ref ma51, .int 0, .int 0, .ref ma54, .ref ma55, .int (-1), .ref ma57, .ref ma58, .ref ma59, .ref ma60, .int 0, .int 0, .int 0, .ref ma64]))]) hD hS hA [0] rfl
  refine va_calli (va_runV (As := [.int (xs (1 : Int32).toNatClampNeg), .int (xs (2 : Int32).toNatClampNeg), .int (xs (3 : Int32).toNatClampNeg)]) (rest := [.int (-1)]) ⟨hx, hb, hml, hown, hts⟩ (m_get l dC dI H.size mh0 (xs (1 : Int32).toNatClampNeg) (xs (2 : Int32).toNatClampNeg) (xs (3 : Int32).toNatClampNeg) ma1 ma2 ma3 ma4 ma5 ma7 ma8 ma10 ma11 ma12 ma13 ma15 ma16 ma17 ma18 ma19 ma20 ma21 ma22 ma24 ma26 ma27 ma29 ma30 ma31 ma32 ma33 ma35 ma36 ma38 ma50 ma51 ma54 ma55 ma57 ma58 ma59 ma60 ma64) (cwV 3 hts gcase_7_50 rfl rfl rfl (by decide +kernel) ⟨Nat.le_of_ble_eq_true rfl, Nat.le_of_ble_eq_true rfl⟩) ⟨fun a U g mk q => by obtain ⟨q0, q1, qP, qK, qD⟩ := q; exact ⟨q0, q1, qP, va_K.moved (u := U) (U := U.calling g mk a) (Vm.Alike.refl U.vm) qK, qD⟩, va_recv hK hP (ci := 12) (q0 := 0) rfl rfl, fun U hU hW => ⟨rfl, by rw [hU], by rw [hU]; exact hPc, va_K.moved hW.alike hKc, hDc.weaken (fun _ _ _ _ => trivial)⟩⟩ rfl rfl hl.1 rfl (lv_room (Nat.le_of_ble_eq_true rfl)) dL_law_412 ⟨Nat.le_of_ble_eq_true rfl, Nat.le_of_ble_eq_true rfl⟩) hS (fun q _ h => hFc q h) hFc (fun r_10 u t H1 locs ht hvm hw hB hz1 hk1 hS => ?_)
  obtain ⟨hP1, hK1, hD1⟩ := hB
  rw [ht] at hP1
  try dsimp only at hw
  obtain ⟨hP, hD⟩ := va_join (wr := []) (w1 := []) hP hD [0] [] rfl rfl (by decide) (by decide) hk1 hFc hP1 hD1
  clear hk1 hz1 hPc hDc hFc hP1 hD1 hK1 hKc
  generalize H1 = H at hP hS ⊢
  have hP : va_P (dC, dI) cls [] H := hP
  have hD : va_D (fun q : Nat => s.heap.size ≤ q) [] := hD
  obtain rfl := hw
  refine lv_icmp_eq (tgt := 1218) hx hb dL_law_415 (by decide) (fun c_11 => ?_) (fun c_11 => ?_)
  rotate_left
  · exact (by revert c_11; decide : False).elim
  exact law_tail l C0 hS (Nat.le_of_ble_eq_true rfl) (Nat.le_of_ble_eq_true rfl) (lv_sub hl [3, 0] rfl)
theorem gcase_8_51g : GoodIn lwS wk_put := goodIn_r _ [389, 365, 366, 367, 202, 368, 190, 369, 320, 321, 322, 323, 324, 57, 58, 59, 60, 61, 62, 63, 64, 65, 66, 67, 68, 69, 70, 118, 119, 120, 121, 122, 123] (by decide +kernel) (by decide +kernel)
theorem gcase_8_51 : GoodIn lwS (wsV RL 51 RX11 yX11_put wk_put) := goodIn_app (goodIn_r _ [390, 391, 392, 202] (by decide +kernel) (by decide +kernel)) gcase_8_51g
theorem gcase_8_55g : GoodIn lwS wm_put := goodIn_r _ [393, 204, 374, 375, 376, 210, 377, 292, 216, 217, 218, 219, 124, 125, 126, 127, 128, 129, 130, 131, 132, 133, 134, 135, 136, 137, 138, 139, 140, 141, 142, 143, 144, 145, 146, 147, 148, 149, 150, 151, 152, 153, 154, 155, 156, 157, 158, 159, 160, 161, 162, 163, 164, 165, 166, 167, 168, 169, 170, 171, 172, 173, 174, 175, 176, 177, 178, 179, 180, 181, 182, 183, 184, 185, 186, 187, 188] (by decide +kernel) (by decide +kernel)
theorem gcase_8_55 : GoodIn lwS (wsV RL 55 RX12 yX12_put wm_put) := goodIn_app (goodIn_r _ [394, 395, 396, 210] (by decide +kernel) (by decide +kernel)) gcase_8_55g
set_option maxHeartbeats 4000000 in
set_option maxRecDepth 100000 in
theorem case_8 {p : Program} {e : Env} {s : State} {m : MethodId} {below : List Frame} {meth : Method} {c : Code} (l : Launch) {b : Nat} {xs : Nat → Int32} (C0 : lw_At p s m meth c b 6 xs) (dC : Nat → ClassId) (dI : Nat → Nat → Nat) (mh0 : Nat) (xh0 : Nat) (xsl : Nat) (xwalker_ : Nat) (xrd : Nat) (xmachine_ : Nat) (xtrial_ : Nat) (xdk : Nat) (xcT : ClassId) (xfT : Nat → Option Nat) (xlenses_ : Nat) (xtp : Nat) (xnames_ : Nat) (xquoted_ : Nat) (xlinks_ : Nat) (xwalker2_ : Nat) (ma1 : Nat) (ma2 : Nat) (ma3 : Nat) (ma4 : Nat) (ma5 : Nat) (ma7 : Nat) (ma8 : Nat) (ma10 : Nat) (ma11 : Nat) (ma12 : Nat) (ma13 : Nat) (ma15 : Nat) (ma16 : Nat) (ma17 : Nat) (ma18 : Nat) (ma19 : Nat) (ma20 : Nat) (ma21 : Nat) (ma22 : Nat) (ma24 : Nat) (ma26 : Nat) (ma27 : Nat) (ma29 : Nat) (ma30 : Nat) (ma31 : Nat) (ma32 : Nat) (ma33 : Nat) (ma35 : Nat) (ma36 : Nat) (ma38 : Nat) (ma50 : Nat) (ma51 : Nat) (ma54 : Nat) (ma55 : Nat) (ma57 : Nat) (ma58 : Nat) (ma59 : Nat) (ma60 : Nat) (ma64 : Nat) (hf0 : ∀ i : Int32, inS i → ∃ t, xfT i.toNatClampNeg = some t) {H : Heap} {locs : List Loc} {ls : Array Slot} (hK : va_K (dC, dI) cls [(xcT, .object RX6)] s) (hP : va_P (dC, dI) cls [(xh0, .inr (11, [.ref xsl, .ref xwalker_, .ref xrd, .ref xmachine_, .ref xtrial_, .ref xdk])), (xsl, .inl (xcT, 8, .inr (.inr (.inr (.inr xfT))))), (xrd, .inr (4, [.ref xlenses_, .int 0, .int 0, .int 0, .int (-1), .int (-1), .ref xtp, .ref xnames_, .ref xquoted_, .ref xlinks_, .ref xwalker2_, .int 0, .int 0, .int 0])), (mh0, .inr (12, [.int 0, .ref ma1, .ref ma2, .ref ma3, .ref ma4, .ref ma5, .int 0, .ref ma7, .ref ma8, .int 0, .ref ma10, .ref ma11, .ref ma12, .ref ma13, .int 0, .ref ma15, .ref ma16, .ref ma17, .ref ma18, .ref ma19, .ref ma20, .ref ma21, .ref ma22, .int 0, .ref ma24, .int 0, .ref ma26, .ref ma27, .int 0, .ref ma29, .ref ma30, .ref ma31, .ref ma32, .ref ma33, .int 0, .ref ma35, .ref ma36, .int 0, .ref ma38, .int 0, .int 0, .int 0, .int 0, .int 0, .long 0, .int 0, .int 0, .int (-1), .int (-1), .int 0, .ref ma50, .ref ma51, .int 0, .int 0, .ref ma54, .ref ma55, .int (-1), .ref ma57, .ref ma58, .ref ma59, .ref ma60, .int 0, .int 0, .int 0, .ref ma64]))] H) (hD : va_D (fun q : Nat => s.heap.size ≤ q) [(xh0, .inr (11, [.ref xsl, .ref xwalker_, .ref xrd, .ref xmachine_, .ref xtrial_, .ref xdk])), (xsl, .inl (xcT, 8, .inr (.inr (.inr (.inr xfT))))), (xrd, .inr (4, [.ref xlenses_, .int 0, .int 0, .int 0, .int (-1), .int (-1), .ref xtp, .ref xnames_, .ref xquoted_, .ref xlinks_, .ref xwalker2_, .int 0, .int 0, .int 0])), (mh0, .inr (12, [.int 0, .ref ma1, .ref ma2, .ref ma3, .ref ma4, .ref ma5, .int 0, .ref ma7, .ref ma8, .int 0, .ref ma10, .ref ma11, .ref ma12, .ref ma13, .int 0, .ref ma15, .ref ma16, .ref ma17, .ref ma18, .ref ma19, .ref ma20, .ref ma21, .ref ma22, .int 0, .ref ma24, .int 0, .ref ma26, .ref ma27, .int 0, .ref ma29, .ref ma30, .ref ma31, .ref ma32, .ref ma33, .int 0, .ref ma35, .ref ma36, .int 0, .ref ma38, .int 0, .int 0, .int 0, .int 0, .int 0, .long 0, .int 0, .int 0, .int (-1), .int (-1), .int 0, .ref ma50, .ref ma51, .int 0, .int 0, .ref ma54, .ref ma55, .int (-1), .ref ma57, .ref ma58, .ref ma59, .ref ma60, .int 0, .int 0, .int 0, .ref ma64]))]) (hS : va_S (fun q : Nat => s.heap.size ≤ q) s.heap H locs) (hl : lv_has ls 4 [(3, .int 0), (2, .ref mh0), (1, .ref xh0), (0, .ref b)]) : W p l e room_1 s m #[Value.ref b] below meth c H locs 185 1243858 (lw_Z below #[Value.ref b] s) (F0 m 420 ls []) := by
  obtain ⟨hx, hb, hr, hml, hown0, hts0, hX, hbl, hlocks, hgv⟩ := id C0
  have hown : s.vm.findClass RL = some m.cls := hown0
  have hts : ∀ w ∈ lwS, w.before #[Value.ref b] s = true := fun w h => hts0 w (wsL_law_in w h)
  have hA : ∀ q : Nat, s.heap.size ≤ q → (fun q : Nat => s.heap.size ≤ q) q := fun _ h => h
  have hbA : ¬ (fun q : Nat => s.heap.size ≤ q) b := Nat.not_le.mpr hbl
  refine lv_aload_n hx hb dL_law_420 rfl (lv_at hl 2 rfl) ?_
  refine lv_aload_n hx hb dL_law_421 rfl (lv_at hl 3 rfl) ?_
  refine lv_iload_n hx hb dL_law_422 rfl (lv_at hl 0 rfl) ?_
  refine lv_iconst (v := 1) hx hb dL_law_423 (by decide) ?_
  refine lv_iadd hx hb dL_law_424 ?_
  refine lv_topi (fun z_1 ez_1 => ?_)
  obtain rfl : z_1 = (1 : Int32) := ez_1.trans (by decide)
  refine va_sld hx hb hX hbl hbA hS (by unfold vp_in; decide) dL_law_425 ?_
  refine lv_aload_n hx hb dL_law_426 rfl (lv_at hl 3 rfl) ?_
  refine lv_iload_n hx hb dL_law_427 rfl (lv_at hl 0 rfl) ?_
  refine lv_iconst (v := 2) hx hb dL_law_428 (by decide) ?_
  refine lv_iadd hx hb dL_law_429 ?_
  refine lv_topi (fun z_2 ez_2 => ?_)
  obtain rfl : z_2 = (2 : Int32) := ez_2.trans (by decide)
  refine va_sld hx hb hX hbl hbA hS (by unfold vp_in; decide) dL_law_430 ?_
  refine lv_aload_n hx hb dL_law_431 rfl (lv_at hl 3 rfl) ?_
  refine lv_iload_n hx hb dL_law_432 rfl (lv_at hl 0 rfl) ?_
  refine lv_iconst (v := 3) hx hb dL_law_433 (by decide) ?_
  refine lv_iadd hx hb dL_law_434 ?_
  refine lv_topi (fun z_3 ez_3 => ?_)
  obtain rfl : z_3 = (3 : Int32) := ez_3.trans (by decide)
  refine va_sld hx hb hX hbl hbA hS (by unfold vp_in; decide) dL_law_435 ?_
  refine lv_aload_n hx hb dL_law_436 rfl (lv_at hl 3 rfl) ?_
  refine lv_iload_n hx hb dL_law_437 rfl (lv_at hl 0 rfl) ?_
  refine lv_iconst (v := 4) hx hb dL_law_438 (by decide) ?_
  refine lv_iadd hx hb dL_law_439 ?_
  refine lv_topi (fun z_4 ez_4 => ?_)
  obtain rfl : z_4 = (4 : Int32) := ez_4.trans (by decide)
  refine va_sld hx hb hX hbl hbA hS (by unfold vp_in; decide) dL_law_440 ?_
  have hPc := hP.sub (ws' := [(xh0, .inr (11, [.ref xsl, .ref xwalker_, .ref xrd, .ref xmachine_, .ref xtrial_, .ref xdk])), (xsl, .inl (xcT, 8, .inr (.inr (.inr (.inr xfT))))), (xrd, .inr (4, [.ref xlenses_, .int 0, .int 0, .int 0, .int (-1), .int (-1), .ref xtp, .ref xnames_, .ref xquoted_, .ref xlinks_, .ref xwalker2_, .int 0, .int 0, .int 0]))]) [0, 1, 2] rfl
  have hDc := hD.sub (ws' := [(xh0, .inr (11, [.ref xsl, .ref xwalker_, .ref xrd, .ref xmachine_, .ref xtrial_, .ref xdk])), (xsl, .inl (xcT, 8, .inr (.inr (.inr (.inr xfT))))), (xrd, .inr (4, [.ref xlenses_, .int 0, .int 0, .int 0, .int (-1), .int (-1), .ref xtp, .ref xnames_, .ref xquoted_, .ref xlinks_, .ref xwalker2_, .int 0, .int 0, .int 0]))]) [0, 1, 2] (by decide) rfl
  have hKc := hK.sub (tys' := [(xcT, .object RX6)]) [0] rfl
  have hFc := va_free (wc := [(xh0, .inr (11, [.ref xsl, .ref xwalker_, .ref xrd, .ref xmachine_, .ref xtrial_, .ref xdk])), (xsl, .inl (xcT, 8, .inr (.inr (.inr (.inr xfT))))), (xrd, .inr (4, [.ref xlenses_, .int 0, .int 0, .int 0, .int (-1), .int (-1), .ref xtp, .ref xnames_, .ref xquoted_, .ref xlinks_, .ref xwalker2_, .int 0, .int 0, .int 0]))]) hD hS hA [0, 1, 2] rfl
  refine va_calli (va_runV (As := [.int (xs (1 : Int32).toNatClampNeg), .int (xs (2 : Int32).toNatClampNeg), .int (xs (3 : Int32).toNatClampNeg), .int (xs (4 : Int32).toNatClampNeg)]) (rest := []) ⟨hx, hb, hml, hown, hts⟩ (k_put l dC dI H.size xh0 (xs (1 : Int32).toNatClampNeg) (xs (2 : Int32).toNatClampNeg) (xs (3 : Int32).toNatClampNeg) (xs (4 : Int32).toNatClampNeg) xsl xwalker_ xrd xmachine_ xtrial_ xdk xcT xfT xlenses_ xtp xnames_ xquoted_ xlinks_ xwalker2_ hf0) (cwV 4 hts gcase_8_51 rfl rfl rfl (by decide +kernel) ⟨Nat.le_of_ble_eq_true rfl, Nat.le_of_ble_eq_true rfl⟩) ⟨fun a U g mk q => by obtain ⟨q0, q1, qP, qK, qD⟩ := q; exact ⟨q0, q1, qP, va_K.moved (u := U) (U := U.calling g mk a) (Vm.Alike.refl U.vm) qK, qD⟩, va_recv hK hP (ci := 11) (q0 := 0) rfl rfl, fun U hU hW => ⟨rfl, by rw [hU], by rw [hU]; exact hPc, va_K.moved hW.alike hKc, hDc.weaken (fun _ _ _ _ => trivial)⟩⟩ rfl rfl hl.1 rfl (lv_room (Nat.le_of_ble_eq_true rfl)) dL_law_441 ⟨Nat.le_of_ble_eq_true rfl, Nat.le_of_ble_eq_true rfl⟩) hS (fun q _ h => hFc q h) hFc (fun r_6 u t H1 locs ht hvm hw hB hz1 hk1 hS => ?_)
  obtain ⟨hP1, hK1, hD1⟩ := hB
  rw [ht] at hP1
  try dsimp only at hw
  obtain ⟨hP, hD⟩ := va_join (wr := [(mh0, .inr (12, [.int 0, .ref ma1, .ref ma2, .ref ma3, .ref ma4, .ref ma5, .int 0, .ref ma7, .ref ma8, .int 0, .ref ma10, .ref ma11, .ref ma12, .ref ma13, .int 0, .ref ma15, .ref ma16, .ref ma17, .ref ma18, .ref ma19, .ref ma20, .ref ma21, .ref ma22, .int 0, .ref ma24, .int 0, .ref ma26, .ref ma27, .int 0, .ref ma29, .ref ma30, .ref ma31, .ref ma32, .ref ma33, .int 0, .ref ma35, .ref ma36, .int 0, .ref ma38, .int 0, .int 0, .int 0, .int 0, .int 0, .long 0, .int 0, .int 0, .int (-1), .int (-1), .int 0, .ref ma50, .ref ma51, .int 0, .int 0, .ref ma54, .ref ma55, .int (-1), .ref ma57, .ref ma58, .ref ma59, .ref ma60, .int 0, .int 0, .int 0, .ref ma64]))]) (w1 := []) hP hD [0, 1, 2] [3] rfl rfl (by decide) (by decide) hk1 hFc hP1 hD1
  clear hk1 hz1 hPc hDc hFc hP1 hD1 hK1 hKc
  generalize H1 = H at hP hS ⊢
  have hP : va_P (dC, dI) cls [(mh0, .inr (12, [.int 0, .ref ma1, .ref ma2, .ref ma3, .ref ma4, .ref ma5, .int 0, .ref ma7, .ref ma8, .int 0, .ref ma10, .ref ma11, .ref ma12, .ref ma13, .int 0, .ref ma15, .ref ma16, .ref ma17, .ref ma18, .ref ma19, .ref ma20, .ref ma21, .ref ma22, .int 0, .ref ma24, .int 0, .ref ma26, .ref ma27, .int 0, .ref ma29, .ref ma30, .ref ma31, .ref ma32, .ref ma33, .int 0, .ref ma35, .ref ma36, .int 0, .ref ma38, .int 0, .int 0, .int 0, .int 0, .int 0, .long 0, .int 0, .int 0, .int (-1), .int (-1), .int 0, .ref ma50, .ref ma51, .int 0, .int 0, .ref ma54, .ref ma55, .int (-1), .ref ma57, .ref ma58, .ref ma59, .ref ma60, .int 0, .int 0, .int 0, .ref ma64]))] H := hP
  have hD : va_D (fun q : Nat => s.heap.size ≤ q) [(mh0, .inr (12, [.int 0, .ref ma1, .ref ma2, .ref ma3, .ref ma4, .ref ma5, .int 0, .ref ma7, .ref ma8, .int 0, .ref ma10, .ref ma11, .ref ma12, .ref ma13, .int 0, .ref ma15, .ref ma16, .ref ma17, .ref ma18, .ref ma19, .ref ma20, .ref ma21, .ref ma22, .int 0, .ref ma24, .int 0, .ref ma26, .ref ma27, .int 0, .ref ma29, .ref ma30, .ref ma31, .ref ma32, .ref ma33, .int 0, .ref ma35, .ref ma36, .int 0, .ref ma38, .int 0, .int 0, .int 0, .int 0, .int 0, .long 0, .int 0, .int 0, .int (-1), .int (-1), .int 0, .ref ma50, .ref ma51, .int 0, .int 0, .ref ma54, .ref ma55, .int (-1), .ref ma57, .ref ma58, .ref ma59, .ref ma60, .int 0, .int 0, .int 0, .ref ma64]))] := hD
  obtain rfl := hw
  refine lv_aload_n hx hb dL_law_444 rfl (lv_at hl 1 rfl) ?_
  refine lv_aload_n hx hb dL_law_445 rfl (lv_at hl 3 rfl) ?_
  refine lv_iload_n hx hb dL_law_446 rfl (lv_at hl 0 rfl) ?_
  refine lv_iconst (v := 1) hx hb dL_law_447 (by decide) ?_
  refine lv_iadd hx hb dL_law_448 ?_
  refine lv_topi (fun z_7 ez_7 => ?_)
  obtain rfl : z_7 = (1 : Int32) := ez_7.trans (by decide)
  refine va_sld hx hb hX hbl hbA hS (by unfold vp_in; decide) dL_law_449 ?_
  refine lv_aload_n hx hb dL_law_450 rfl (lv_at hl 3 rfl) ?_
  refine lv_iload_n hx hb dL_law_451 rfl (lv_at hl 0 rfl) ?_
  refine lv_iconst (v := 2) hx hb dL_law_452 (by decide) ?_
  refine lv_iadd hx hb dL_law_453 ?_
  refine lv_topi (fun z_8 ez_8 => ?_)
  obtain rfl : z_8 = (2 : Int32) := ez_8.trans (by decide)
  refine va_sld hx hb hX hbl hbA hS (by unfold vp_in; decide) dL_law_454 ?_
  refine lv_aload_n hx hb dL_law_455 rfl (lv_at hl 3 rfl) ?_
  refine lv_iload_n hx hb dL_law_456 rfl (lv_at hl 0 rfl) ?_
  refine lv_iconst (v := 3) hx hb dL_law_457 (by decide) ?_
  refine lv_iadd hx hb dL_law_458 ?_
  refine lv_topi (fun z_9 ez_9 => ?_)
  obtain rfl : z_9 = (3 : Int32) := ez_9.trans (by decide)
  refine va_sld hx hb hX hbl hbA hS (by unfold vp_in; decide) dL_law_459 ?_
  refine lv_aload_n hx hb dL_law_460 rfl (lv_at hl 3 rfl) ?_
  refine lv_iload_n hx hb dL_law_461 rfl (lv_at hl 0 rfl) ?_
  refine lv_iconst (v := 4) hx hb dL_law_462 (by decide) ?_
  refine lv_iadd hx hb dL_law_463 ?_
  refine lv_topi (fun z_10 ez_10 => ?_)
  obtain rfl : z_10 = (4 : Int32) := ez_10.trans (by decide)
  refine va_sld hx hb hX hbl hbA hS (by unfold vp_in; decide) dL_law_464 ?_
  have hPc := hP.sub (ws' := [(mh0, .inr (12, [.int 0, .ref ma1, .ref ma2, .ref ma3, .ref ma4, .ref ma5, .int 0, .ref ma7, .ref ma8, .int 0, .ref ma10, .ref ma11, .ref ma12, .ref ma13, .int 0, .ref ma15, .ref ma16, .ref ma17, .ref ma18, .ref ma19, .ref ma20, .ref ma21, .ref ma22, .int 0, .ref ma24, .int 0, .ref ma26, .ref ma27, .int 0, .ref ma29, .ref ma30, .ref ma31, .ref ma32, .ref ma33, .int 0, .ref ma35, .ref ma36, .int 0, .ref ma38, .int 0, .int 0, .int 0, .int 0, .int 0, .long 0, .int 0, .int 0, .int (-1), .int (-1), .int 0, .ref ma50, .ref ma51, .int 0, .int 0, .ref ma54, .ref ma55, .int (-1), .ref ma57, .ref ma58, .ref ma59, .ref ma60, .int 0, .int 0, .int 0, .ref ma64]))]) [0] rfl
  have hDc := hD.sub (ws' := [(mh0, .inr (12, [.int 0, .ref ma1, .ref ma2, .ref ma3, .ref ma4, .ref ma5, .int 0, .ref ma7, .ref ma8, .int 0, .ref ma10, .ref ma11, .ref ma12, .ref ma13, .int 0, .ref ma15, .ref ma16, .ref ma17, .ref ma18, .ref ma19, .ref ma20, .ref ma21, .ref ma22, .int 0, .ref ma24, .int 0, .ref ma26, .ref ma27, .int 0, .ref ma29, .ref ma30, .ref ma31, .ref ma32, .ref ma33, .int 0, .ref ma35, .ref ma36, .int 0, .ref ma38, .int 0, .int 0, .int 0, .int 0, .int 0, .long 0, .int 0, .int 0, .int (-1), .int (-1), .int 0, .ref ma50, .ref ma51, .int 0, .int 0, .ref ma54, .ref ma55, .int (-1), .ref ma57, .ref ma58, .ref ma59, .ref ma60, .int 0, .int 0, .int 0, .ref ma64]))]) [0] (by decide) rfl
  have hKc := hK.sub (tys' := []) [] rfl
  have hFc := va_free (wc := [(mh0, .inr (12, [.int 0, .ref ma1, .ref ma2, .ref ma3, .ref ma4, .ref ma5, .int 0, .ref ma7, .ref ma8, .int 0, .ref ma10, .ref ma11, .ref ma12, .ref ma13, .int 0, .ref ma15, .ref ma16, .ref ma17, .ref ma18, .ref ma19, .ref ma20, .ref ma21, .ref ma22, .int 0, .ref ma24, .int 0, .ref ma26, .ref ma27, .int 0, .ref ma29, .ref ma30, .ref ma31, .ref ma32, .ref ma33, .int 0, .ref ma35, .ref ma36, .int 0, .ref ma38, .int 0, .int 0, .int 0, .int 0, .int 0, .long 0, .int 0, .int 0, .int (-1), .int (-1), .int 0, .ref ma50, .ref ma51, .int 0, .int 0, .ref ma54, .ref ma55, .int (-1), .ref ma57, .ref ma58, .ref ma59, .ref ma60, .int 0, .int 0, .int 0, .ref ma64]))]) hD hS hA [0] rfl
  refine va_calli (va_runV (As := [.int (xs (1 : Int32).toNatClampNeg), .int (xs (2 : Int32).toNatClampNeg), .int (xs (3 : Int32).toNatClampNeg), .int (xs (4 : Int32).toNatClampNeg)]) (rest := [.int (-1)]) ⟨hx, hb, hml, hown, hts⟩ (m_put l dC dI H.size mh0 (xs (1 : Int32).toNatClampNeg) (xs (2 : Int32).toNatClampNeg) (xs (3 : Int32).toNatClampNeg) (xs (4 : Int32).toNatClampNeg) ma1 ma2 ma3 ma4 ma5 ma7 ma8 ma10 ma11 ma12 ma13 ma15 ma16 ma17 ma18 ma19 ma20 ma21 ma22 ma24 ma26 ma27 ma29 ma30 ma31 ma32 ma33 ma35 ma36 ma38 ma50 ma51 ma54 ma55 ma57 ma58 ma59 ma60 ma64) (cwV 4 hts gcase_8_55 rfl rfl rfl (by decide +kernel) ⟨Nat.le_of_ble_eq_true rfl, Nat.le_of_ble_eq_true rfl⟩) ⟨fun a U g mk q => by obtain ⟨q0, q1, qP, qK, qD⟩ := q; exact ⟨q0, q1, qP, va_K.moved (u := U) (U := U.calling g mk a) (Vm.Alike.refl U.vm) qK, qD⟩, va_recv hK hP (ci := 12) (q0 := 0) rfl rfl, fun U hU hW => ⟨rfl, by rw [hU], by rw [hU]; exact hPc, va_K.moved hW.alike hKc, hDc.weaken (fun _ _ _ _ => trivial)⟩⟩ rfl rfl hl.1 rfl (lv_room (Nat.le_of_ble_eq_true rfl)) dL_law_465 ⟨Nat.le_of_ble_eq_true rfl, Nat.le_of_ble_eq_true rfl⟩) hS (fun q _ h => hFc q h) hFc (fun r_12 u t H1 locs ht hvm hw hB hz1 hk1 hS => ?_)
  obtain ⟨hP1, hK1, hD1⟩ := hB
  rw [ht] at hP1
  try dsimp only at hw
  obtain ⟨hP, hD⟩ := va_join (wr := []) (w1 := []) hP hD [0] [] rfl rfl (by decide) (by decide) hk1 hFc hP1 hD1
  clear hk1 hz1 hPc hDc hFc hP1 hD1 hK1 hKc
  generalize H1 = H at hP hS ⊢
  have hP : va_P (dC, dI) cls [] H := hP
  have hD : va_D (fun q : Nat => s.heap.size ≤ q) [] := hD
  obtain rfl := hw
  refine lv_icmp_eq (tgt := 1218) hx hb dL_law_468 (by decide) (fun c_13 => ?_) (fun c_13 => ?_)
  rotate_left
  · exact (by revert c_13; decide : False).elim
  exact law_tail l C0 hS (Nat.le_of_ble_eq_true rfl) (Nat.le_of_ble_eq_true rfl) (lv_sub hl [3, 0] rfl)
theorem gcase_9_56g : GoodIn lwS wk_create := goodIn_r _ [397, 365, 366, 367, 202, 368, 190, 369, 320, 321, 322, 323, 324, 57, 58, 59, 60, 61, 62, 63, 64, 65, 66, 67, 68, 69, 70, 118, 119, 120, 121, 122, 123] (by decide +kernel) (by decide +kernel)
theorem gcase_9_56 : GoodIn lwS (wsV RL 56 RX11 yX11_create wk_create) := goodIn_app (goodIn_r _ [398, 399, 400, 202] (by decide +kernel) (by decide +kernel)) gcase_9_56g
theorem gcase_9_59g : GoodIn lwS wm_create := goodIn_r _ [401, 204, 374, 375, 376, 210, 377, 292, 216, 217, 218, 219, 124, 125, 126, 127, 128, 129, 130, 131, 132, 133, 134, 135, 136, 137, 138, 139, 140, 141, 142, 143, 144, 145, 146, 147, 148, 149, 150, 151, 152, 153, 154, 155, 156, 157, 158, 159, 160, 161, 162, 163, 164, 165, 166, 167, 168, 169, 170, 171, 172, 173, 174, 175, 176, 177, 178, 179, 180, 181, 182, 183, 184, 185, 186, 187, 188] (by decide +kernel) (by decide +kernel)
theorem gcase_9_59 : GoodIn lwS (wsV RL 59 RX12 yX12_create wm_create) := goodIn_app (goodIn_r _ [402, 403, 404, 210] (by decide +kernel) (by decide +kernel)) gcase_9_59g
set_option maxHeartbeats 4000000 in
set_option maxRecDepth 100000 in
theorem case_9 {p : Program} {e : Env} {s : State} {m : MethodId} {below : List Frame} {meth : Method} {c : Code} (l : Launch) {b : Nat} {xs : Nat → Int32} (C0 : lw_At p s m meth c b 6 xs) (dC : Nat → ClassId) (dI : Nat → Nat → Nat) (mh0 : Nat) (xh0 : Nat) (xsl : Nat) (xwalker_ : Nat) (xrd : Nat) (xmachine_ : Nat) (xtrial_ : Nat) (xdk : Nat) (xcT : ClassId) (xfT : Nat → Option Nat) (xlenses_ : Nat) (xtp : Nat) (xnames_ : Nat) (xquoted_ : Nat) (xlinks_ : Nat) (xwalker2_ : Nat) (ma1 : Nat) (ma2 : Nat) (ma3 : Nat) (ma4 : Nat) (ma5 : Nat) (ma7 : Nat) (ma8 : Nat) (ma10 : Nat) (ma11 : Nat) (ma12 : Nat) (ma13 : Nat) (ma15 : Nat) (ma16 : Nat) (ma17 : Nat) (ma18 : Nat) (ma19 : Nat) (ma20 : Nat) (ma21 : Nat) (ma22 : Nat) (ma24 : Nat) (ma26 : Nat) (ma27 : Nat) (ma29 : Nat) (ma30 : Nat) (ma31 : Nat) (ma32 : Nat) (ma33 : Nat) (ma35 : Nat) (ma36 : Nat) (ma38 : Nat) (ma50 : Nat) (ma51 : Nat) (ma54 : Nat) (ma55 : Nat) (ma57 : Nat) (ma58 : Nat) (ma59 : Nat) (ma60 : Nat) (ma64 : Nat) (hf0 : ∀ i : Int32, inS i → ∃ t, xfT i.toNatClampNeg = some t) {H : Heap} {locs : List Loc} {ls : Array Slot} (hK : va_K (dC, dI) cls [(xcT, .object RX6)] s) (hP : va_P (dC, dI) cls [(xh0, .inr (11, [.ref xsl, .ref xwalker_, .ref xrd, .ref xmachine_, .ref xtrial_, .ref xdk])), (xsl, .inl (xcT, 8, .inr (.inr (.inr (.inr xfT))))), (xrd, .inr (4, [.ref xlenses_, .int 0, .int 0, .int 0, .int (-1), .int (-1), .ref xtp, .ref xnames_, .ref xquoted_, .ref xlinks_, .ref xwalker2_, .int 0, .int 0, .int 0])), (mh0, .inr (12, [.int 0, .ref ma1, .ref ma2, .ref ma3, .ref ma4, .ref ma5, .int 0, .ref ma7, .ref ma8, .int 0, .ref ma10, .ref ma11, .ref ma12, .ref ma13, .int 0, .ref ma15, .ref ma16, .ref ma17, .ref ma18, .ref ma19, .ref ma20, .ref ma21, .ref ma22, .int 0, .ref ma24, .int 0, .ref ma26, .ref ma27, .int 0, .ref ma29, .ref ma30, .ref ma31, .ref ma32, .ref ma33, .int 0, .ref ma35, .ref ma36, .int 0, .ref ma38, .int 0, .int 0, .int 0, .int 0, .int 0, .long 0, .int 0, .int 0, .int (-1), .int (-1), .int 0, .ref ma50, .ref ma51, .int 0, .int 0, .ref ma54, .ref ma55, .int (-1), .ref ma57, .ref ma58, .ref ma59, .ref ma60, .int 0, .int 0, .int 0, .ref ma64]))] H) (hD : va_D (fun q : Nat => s.heap.size ≤ q) [(xh0, .inr (11, [.ref xsl, .ref xwalker_, .ref xrd, .ref xmachine_, .ref xtrial_, .ref xdk])), (xsl, .inl (xcT, 8, .inr (.inr (.inr (.inr xfT))))), (xrd, .inr (4, [.ref xlenses_, .int 0, .int 0, .int 0, .int (-1), .int (-1), .ref xtp, .ref xnames_, .ref xquoted_, .ref xlinks_, .ref xwalker2_, .int 0, .int 0, .int 0])), (mh0, .inr (12, [.int 0, .ref ma1, .ref ma2, .ref ma3, .ref ma4, .ref ma5, .int 0, .ref ma7, .ref ma8, .int 0, .ref ma10, .ref ma11, .ref ma12, .ref ma13, .int 0, .ref ma15, .ref ma16, .ref ma17, .ref ma18, .ref ma19, .ref ma20, .ref ma21, .ref ma22, .int 0, .ref ma24, .int 0, .ref ma26, .ref ma27, .int 0, .ref ma29, .ref ma30, .ref ma31, .ref ma32, .ref ma33, .int 0, .ref ma35, .ref ma36, .int 0, .ref ma38, .int 0, .int 0, .int 0, .int 0, .int 0, .long 0, .int 0, .int 0, .int (-1), .int (-1), .int 0, .ref ma50, .ref ma51, .int 0, .int 0, .ref ma54, .ref ma55, .int (-1), .ref ma57, .ref ma58, .ref ma59, .ref ma60, .int 0, .int 0, .int 0, .ref ma64]))]) (hS : va_S (fun q : Nat => s.heap.size ≤ q) s.heap H locs) (hl : lv_has ls 4 [(3, .int 0), (2, .ref mh0), (1, .ref xh0), (0, .ref b)]) : W p l e room_1 s m #[Value.ref b] below meth c H locs 185 1243858 (lw_Z below #[Value.ref b] s) (F0 m 473 ls []) := by
  obtain ⟨hx, hb, hr, hml, hown0, hts0, hX, hbl, hlocks, hgv⟩ := id C0
  have hown : s.vm.findClass RL = some m.cls := hown0
  have hts : ∀ w ∈ lwS, w.before #[Value.ref b] s = true := fun w h => hts0 w (wsL_law_in w h)
  have hA : ∀ q : Nat, s.heap.size ≤ q → (fun q : Nat => s.heap.size ≤ q) q := fun _ h => h
  have hbA : ¬ (fun q : Nat => s.heap.size ≤ q) b := Nat.not_le.mpr hbl
  refine lv_aload_n hx hb dL_law_473 rfl (lv_at hl 2 rfl) ?_
  refine lv_aload_n hx hb dL_law_474 rfl (lv_at hl 3 rfl) ?_
  refine lv_iload_n hx hb dL_law_475 rfl (lv_at hl 0 rfl) ?_
  refine lv_iconst (v := 1) hx hb dL_law_476 (by decide) ?_
  refine lv_iadd hx hb dL_law_477 ?_
  refine lv_topi (fun z_1 ez_1 => ?_)
  obtain rfl : z_1 = (1 : Int32) := ez_1.trans (by decide)
  refine va_sld hx hb hX hbl hbA hS (by unfold vp_in; decide) dL_law_478 ?_
  refine lv_aload_n hx hb dL_law_479 rfl (lv_at hl 3 rfl) ?_
  refine lv_iload_n hx hb dL_law_480 rfl (lv_at hl 0 rfl) ?_
  refine lv_iconst (v := 2) hx hb dL_law_481 (by decide) ?_
  refine lv_iadd hx hb dL_law_482 ?_
  refine lv_topi (fun z_2 ez_2 => ?_)
  obtain rfl : z_2 = (2 : Int32) := ez_2.trans (by decide)
  refine va_sld hx hb hX hbl hbA hS (by unfold vp_in; decide) dL_law_483 ?_
  refine lv_aload_n hx hb dL_law_484 rfl (lv_at hl 3 rfl) ?_
  refine lv_iload_n hx hb dL_law_485 rfl (lv_at hl 0 rfl) ?_
  refine lv_iconst (v := 3) hx hb dL_law_486 (by decide) ?_
  refine lv_iadd hx hb dL_law_487 ?_
  refine lv_topi (fun z_3 ez_3 => ?_)
  obtain rfl : z_3 = (3 : Int32) := ez_3.trans (by decide)
  refine va_sld hx hb hX hbl hbA hS (by unfold vp_in; decide) dL_law_488 ?_
  have hPc := hP.sub (ws' := [(xh0, .inr (11, [.ref xsl, .ref xwalker_, .ref xrd, .ref xmachine_, .ref xtrial_, .ref xdk])), (xsl, .inl (xcT, 8, .inr (.inr (.inr (.inr xfT))))), (xrd, .inr (4, [.ref xlenses_, .int 0, .int 0, .int 0, .int (-1), .int (-1), .ref xtp, .ref xnames_, .ref xquoted_, .ref xlinks_, .ref xwalker2_, .int 0, .int 0, .int 0]))]) [0, 1, 2] rfl
  have hDc := hD.sub (ws' := [(xh0, .inr (11, [.ref xsl, .ref xwalker_, .ref xrd, .ref xmachine_, .ref xtrial_, .ref xdk])), (xsl, .inl (xcT, 8, .inr (.inr (.inr (.inr xfT))))), (xrd, .inr (4, [.ref xlenses_, .int 0, .int 0, .int 0, .int (-1), .int (-1), .ref xtp, .ref xnames_, .ref xquoted_, .ref xlinks_, .ref xwalker2_, .int 0, .int 0, .int 0]))]) [0, 1, 2] (by decide) rfl
  have hKc := hK.sub (tys' := [(xcT, .object RX6)]) [0] rfl
  have hFc := va_free (wc := [(xh0, .inr (11, [.ref xsl, .ref xwalker_, .ref xrd, .ref xmachine_, .ref xtrial_, .ref xdk])), (xsl, .inl (xcT, 8, .inr (.inr (.inr (.inr xfT))))), (xrd, .inr (4, [.ref xlenses_, .int 0, .int 0, .int 0, .int (-1), .int (-1), .ref xtp, .ref xnames_, .ref xquoted_, .ref xlinks_, .ref xwalker2_, .int 0, .int 0, .int 0]))]) hD hS hA [0, 1, 2] rfl
  refine va_calli (va_runV (As := [.int (xs (1 : Int32).toNatClampNeg), .int (xs (2 : Int32).toNatClampNeg), .int (xs (3 : Int32).toNatClampNeg)]) (rest := []) ⟨hx, hb, hml, hown, hts⟩ (k_create l dC dI H.size xh0 (xs (1 : Int32).toNatClampNeg) (xs (2 : Int32).toNatClampNeg) (xs (3 : Int32).toNatClampNeg) xsl xwalker_ xrd xmachine_ xtrial_ xdk xcT xfT xlenses_ xtp xnames_ xquoted_ xlinks_ xwalker2_ hf0) (cwV 3 hts gcase_9_56 rfl rfl rfl (by decide +kernel) ⟨Nat.le_of_ble_eq_true rfl, Nat.le_of_ble_eq_true rfl⟩) ⟨fun a U g mk q => by obtain ⟨q0, q1, qP, qK, qD⟩ := q; exact ⟨q0, q1, qP, va_K.moved (u := U) (U := U.calling g mk a) (Vm.Alike.refl U.vm) qK, qD⟩, va_recv hK hP (ci := 11) (q0 := 0) rfl rfl, fun U hU hW => ⟨rfl, by rw [hU], by rw [hU]; exact hPc, va_K.moved hW.alike hKc, hDc.weaken (fun _ _ _ _ => trivial)⟩⟩ rfl rfl hl.1 rfl (lv_room (Nat.le_of_ble_eq_true rfl)) dL_law_489 ⟨Nat.le_of_ble_eq_true rfl, Nat.le_of_ble_eq_true rfl⟩) hS (fun q _ h => hFc q h) hFc (fun r_5 u t H1 locs ht hvm hw hB hz1 hk1 hS => ?_)
  obtain ⟨hP1, hK1, hD1⟩ := hB
  rw [ht] at hP1
  try dsimp only at hw
  obtain ⟨hP, hD⟩ := va_join (wr := [(mh0, .inr (12, [.int 0, .ref ma1, .ref ma2, .ref ma3, .ref ma4, .ref ma5, .int 0, .ref ma7, .ref ma8, .int 0, .ref ma10, .ref ma11, .ref ma12, .ref ma13, .int 0, .ref ma15, .ref ma16, .ref ma17, .ref ma18, .ref ma19, .ref ma20, .ref ma21, .ref ma22, .int 0, .ref ma24, .int 0, .ref ma26, .ref ma27, .int 0, .ref ma29, .ref ma30, .ref ma31, .ref ma32, .ref ma33, .int 0, .ref ma35, .ref ma36, .int 0, .ref ma38, .int 0, .int 0, .int 0, .int 0, .int 0, .long 0, .int 0, .int 0, .int (-1), .int (-1), .int 0, .ref ma50, .ref ma51, .int 0, .int 0, .ref ma54, .ref ma55, .int (-1), .ref ma57, .ref ma58, .ref ma59, .ref ma60, .int 0, .int 0, .int 0, .ref ma64]))]) (w1 := []) hP hD [0, 1, 2] [3] rfl rfl (by decide) (by decide) hk1 hFc hP1 hD1
  clear hk1 hz1 hPc hDc hFc hP1 hD1 hK1 hKc
  generalize H1 = H at hP hS ⊢
  have hP : va_P (dC, dI) cls [(mh0, .inr (12, [.int 0, .ref ma1, .ref ma2, .ref ma3, .ref ma4, .ref ma5, .int 0, .ref ma7, .ref ma8, .int 0, .ref ma10, .ref ma11, .ref ma12, .ref ma13, .int 0, .ref ma15, .ref ma16, .ref ma17, .ref ma18, .ref ma19, .ref ma20, .ref ma21, .ref ma22, .int 0, .ref ma24, .int 0, .ref ma26, .ref ma27, .int 0, .ref ma29, .ref ma30, .ref ma31, .ref ma32, .ref ma33, .int 0, .ref ma35, .ref ma36, .int 0, .ref ma38, .int 0, .int 0, .int 0, .int 0, .int 0, .long 0, .int 0, .int 0, .int (-1), .int (-1), .int 0, .ref ma50, .ref ma51, .int 0, .int 0, .ref ma54, .ref ma55, .int (-1), .ref ma57, .ref ma58, .ref ma59, .ref ma60, .int 0, .int 0, .int 0, .ref ma64]))] H := hP
  have hD : va_D (fun q : Nat => s.heap.size ≤ q) [(mh0, .inr (12, [.int 0, .ref ma1, .ref ma2, .ref ma3, .ref ma4, .ref ma5, .int 0, .ref ma7, .ref ma8, .int 0, .ref ma10, .ref ma11, .ref ma12, .ref ma13, .int 0, .ref ma15, .ref ma16, .ref ma17, .ref ma18, .ref ma19, .ref ma20, .ref ma21, .ref ma22, .int 0, .ref ma24, .int 0, .ref ma26, .ref ma27, .int 0, .ref ma29, .ref ma30, .ref ma31, .ref ma32, .ref ma33, .int 0, .ref ma35, .ref ma36, .int 0, .ref ma38, .int 0, .int 0, .int 0, .int 0, .int 0, .long 0, .int 0, .int 0, .int (-1), .int (-1), .int 0, .ref ma50, .ref ma51, .int 0, .int 0, .ref ma54, .ref ma55, .int (-1), .ref ma57, .ref ma58, .ref ma59, .ref ma60, .int 0, .int 0, .int 0, .ref ma64]))] := hD
  obtain rfl := hw
  refine lv_aload_n hx hb dL_law_492 rfl (lv_at hl 1 rfl) ?_
  refine lv_aload_n hx hb dL_law_493 rfl (lv_at hl 3 rfl) ?_
  refine lv_iload_n hx hb dL_law_494 rfl (lv_at hl 0 rfl) ?_
  refine lv_iconst (v := 1) hx hb dL_law_495 (by decide) ?_
  refine lv_iadd hx hb dL_law_496 ?_
  refine lv_topi (fun z_6 ez_6 => ?_)
  obtain rfl : z_6 = (1 : Int32) := ez_6.trans (by decide)
  refine va_sld hx hb hX hbl hbA hS (by unfold vp_in; decide) dL_law_497 ?_
  refine lv_aload_n hx hb dL_law_498 rfl (lv_at hl 3 rfl) ?_
  refine lv_iload_n hx hb dL_law_499 rfl (lv_at hl 0 rfl) ?_
  refine lv_iconst (v := 2) hx hb dL_law_500 (by decide) ?_
  refine lv_iadd hx hb dL_law_501 ?_
  refine lv_topi (fun z_7 ez_7 => ?_)
  obtain rfl : z_7 = (2 : Int32) := ez_7.trans (by decide)
  refine va_sld hx hb hX hbl hbA hS (by unfold vp_in; decide) dL_law_502 ?_
  refine lv_aload_n hx hb dL_law_503 rfl (lv_at hl 3 rfl) ?_
  refine lv_iload_n hx hb dL_law_504 rfl (lv_at hl 0 rfl) ?_
  refine lv_iconst (v := 3) hx hb dL_law_505 (by decide) ?_
  refine lv_iadd hx hb dL_law_506 ?_
  refine lv_topi (fun z_8 ez_8 => ?_)
  obtain rfl : z_8 = (3 : Int32) := ez_8.trans (by decide)
  refine va_sld hx hb hX hbl hbA hS (by unfold vp_in; decide) dL_law_507 ?_
  have hPc := hP.sub (ws' := [(mh0, .inr (12, [.int 0, .ref ma1, .ref ma2, .ref ma3, .ref ma4, .ref ma5, .int 0, .ref ma7, .ref ma8, .int 0, .ref ma10, .ref ma11, .ref ma12, .ref ma13, .int 0, .ref ma15, .ref ma16, .ref ma17, .ref ma18, .ref ma19, .ref ma20, .ref ma21, .ref ma22, .int 0, .ref ma24, .int 0, .ref ma26, .ref ma27, .int 0, .ref ma29, .ref ma30, .ref ma31, .ref ma32, .ref ma33, .int 0, .ref ma35, .ref ma36, .int 0, .ref ma38, .int 0, .int 0, .int 0, .int 0, .int 0, .long 0, .int 0, .int 0, .int (-1), .int (-1), .int 0, .ref ma50, .ref ma51, .int 0, .int 0, .ref ma54, .ref ma55, .int (-1), .ref ma57, .ref ma58, .ref ma59, .ref ma60, .int 0, .int 0, .int 0, .ref ma64]))]) [0] rfl
  have hDc := hD.sub (ws' := [(mh0, .inr (12, [.int 0, .ref ma1, .ref ma2, .ref ma3, .ref ma4, .ref ma5, .int 0, .ref ma7, .ref ma8, .int 0, .ref ma10, .ref ma11, .ref ma12, .ref ma13, .int 0, .ref ma15, .ref ma16, .ref ma17, .ref ma18, .ref ma19, .ref ma20, .ref ma21, .ref ma22, .int 0, .ref ma24, .int 0, .ref ma26, .ref ma27, .int 0, .ref ma29, .ref ma30, .ref ma31, .ref ma32, .ref ma33, .int 0, .ref ma35, .ref ma36, .int 0, .ref ma38, .int 0, .int 0, .int 0, .int 0, .int 0, .long 0, .int 0, .int 0, .int (-1), .int (-1), .int 0, .ref ma50, .ref ma51, .int 0, .int 0, .ref ma54, .ref ma55, .int (-1), .ref ma57, .ref ma58, .ref ma59, .ref ma60, .int 0, .int 0, .int 0, .ref ma64]))]) [0] (by decide) rfl
  have hKc := hK.sub (tys' := []) [] rfl
  have hFc := va_free (wc := [(mh0, .inr (12, [.int 0, .ref ma1, .ref ma2, .ref ma3, .ref ma4, .ref ma5, .int 0, .ref ma7, .ref ma8, .int 0, .ref ma10, .ref ma11, .ref ma12, .ref ma13, .int 0, .ref ma15, .ref ma16, .ref ma17, .ref ma18, .ref ma19, .ref ma20, .ref ma21, .ref ma22, .int 0, .ref ma24, .int 0, .ref ma26, .ref ma27, .int 0, .ref ma29, .ref ma30, .ref ma31, .ref ma32, .ref ma33, .int 0, .ref ma35, .ref ma36, .int 0, .ref ma38, .int 0, .int 0, .int 0, .int 0, .int 0, .long 0, .int 0, .int 0, .int (-1), .int (-1), .int 0, .ref ma50, .ref ma51, .int 0, .int 0, .ref ma54, .ref ma55, .int (-1), .ref ma57, .ref ma58, .ref ma59, .ref ma60, .int 0, .int 0, .int 0, .ref ma64]))]) hD hS hA [0] rfl
  refine va_calli (va_runV (As := [.int (xs (1 : Int32).toNatClampNeg), .int (xs (2 : Int32).toNatClampNeg), .int (xs (3 : Int32).toNatClampNeg)]) (rest := [.int (-1)]) ⟨hx, hb, hml, hown, hts⟩ (m_create l dC dI H.size mh0 (xs (1 : Int32).toNatClampNeg) (xs (2 : Int32).toNatClampNeg) (xs (3 : Int32).toNatClampNeg) ma1 ma2 ma3 ma4 ma5 ma7 ma8 ma10 ma11 ma12 ma13 ma15 ma16 ma17 ma18 ma19 ma20 ma21 ma22 ma24 ma26 ma27 ma29 ma30 ma31 ma32 ma33 ma35 ma36 ma38 ma50 ma51 ma54 ma55 ma57 ma58 ma59 ma60 ma64) (cwV 3 hts gcase_9_59 rfl rfl rfl (by decide +kernel) ⟨Nat.le_of_ble_eq_true rfl, Nat.le_of_ble_eq_true rfl⟩) ⟨fun a U g mk q => by obtain ⟨q0, q1, qP, qK, qD⟩ := q; exact ⟨q0, q1, qP, va_K.moved (u := U) (U := U.calling g mk a) (Vm.Alike.refl U.vm) qK, qD⟩, va_recv hK hP (ci := 12) (q0 := 0) rfl rfl, fun U hU hW => ⟨rfl, by rw [hU], by rw [hU]; exact hPc, va_K.moved hW.alike hKc, hDc.weaken (fun _ _ _ _ => trivial)⟩⟩ rfl rfl hl.1 rfl (lv_room (Nat.le_of_ble_eq_true rfl)) dL_law_508 ⟨Nat.le_of_ble_eq_true rfl, Nat.le_of_ble_eq_true rfl⟩) hS (fun q _ h => hFc q h) hFc (fun r_10 u t H1 locs ht hvm hw hB hz1 hk1 hS => ?_)
  obtain ⟨hP1, hK1, hD1⟩ := hB
  rw [ht] at hP1
  try dsimp only at hw
  obtain ⟨hP, hD⟩ := va_join (wr := []) (w1 := []) hP hD [0] [] rfl rfl (by decide) (by decide) hk1 hFc hP1 hD1
  clear hk1 hz1 hPc hDc hFc hP1 hD1 hK1 hKc
  generalize H1 = H at hP hS ⊢
  have hP : va_P (dC, dI) cls [] H := hP
  have hD : va_D (fun q : Nat => s.heap.size ≤ q) [] := hD
  obtain rfl := hw
  refine lv_icmp_eq (tgt := 1218) hx hb dL_law_511 (by decide) (fun c_11 => ?_) (fun c_11 => ?_)
  rotate_left
  · exact (by revert c_11; decide : False).elim
  exact law_tail l C0 hS (Nat.le_of_ble_eq_true rfl) (Nat.le_of_ble_eq_true rfl) (lv_sub hl [3, 0] rfl)
theorem gcase_10_60g : GoodIn lwS wk_many := goodIn_r _ [405, 361, 362, 363, 202, 364, 365, 366, 367, 368, 190, 369, 406, 57, 58, 59, 60, 61, 62, 63, 64, 65, 66, 67, 68, 69, 70, 118, 119, 120, 121, 122, 123] (by decide +kernel) (by decide +kernel)
theorem gcase_10_60 : GoodIn lwS (wsV RL 60 RX11 yX11_many wk_many) := goodIn_app (goodIn_r _ [407, 408, 409, 202] (by decide +kernel) (by decide +kernel)) gcase_10_60g
theorem gcase_10_64g : GoodIn lwS wm_many := goodIn_r _ [410, 204, 374, 375, 376, 210, 377, 292, 216, 217, 218, 219, 411, 124, 125, 126, 127, 128, 129, 130, 131, 132, 133, 134, 135, 136, 137, 138, 139, 140, 141, 142, 143, 144, 145, 146, 147, 148, 149, 150, 151, 152, 153, 154, 155, 156, 157, 158, 159, 160, 161, 162, 163, 164, 165, 166, 167, 168, 169, 170, 171, 172, 173, 174, 175, 176, 177, 178, 179, 180, 181, 182, 183, 184, 185, 186, 187, 188] (by decide +kernel) (by decide +kernel)
theorem gcase_10_64 : GoodIn lwS (wsV RL 64 RX12 yX12_many wm_many) := goodIn_app (goodIn_r _ [412, 413, 414, 210] (by decide +kernel) (by decide +kernel)) gcase_10_64g
set_option maxHeartbeats 4000000 in
set_option maxRecDepth 100000 in
theorem case_10 {p : Program} {e : Env} {s : State} {m : MethodId} {below : List Frame} {meth : Method} {c : Code} (l : Launch) {b : Nat} {xs : Nat → Int32} (C0 : lw_At p s m meth c b 6 xs) (dC : Nat → ClassId) (dI : Nat → Nat → Nat) (mh0 : Nat) (xh0 : Nat) (xsl : Nat) (xwalker_ : Nat) (xrd : Nat) (xmachine_ : Nat) (xtrial_ : Nat) (xdk : Nat) (xlenses_ : Nat) (xtp : Nat) (xnames_ : Nat) (xquoted_ : Nat) (xlinks_ : Nat) (xwalker2_ : Nat) (ma1 : Nat) (ma2 : Nat) (ma3 : Nat) (ma4 : Nat) (ma5 : Nat) (ma7 : Nat) (ma8 : Nat) (ma10 : Nat) (ma11 : Nat) (ma12 : Nat) (ma13 : Nat) (ma15 : Nat) (ma16 : Nat) (ma17 : Nat) (ma18 : Nat) (ma19 : Nat) (ma20 : Nat) (ma21 : Nat) (ma22 : Nat) (ma24 : Nat) (ma26 : Nat) (ma27 : Nat) (ma29 : Nat) (ma30 : Nat) (ma31 : Nat) (ma32 : Nat) (ma33 : Nat) (ma35 : Nat) (ma36 : Nat) (ma38 : Nat) (ma50 : Nat) (ma51 : Nat) (ma54 : Nat) (ma55 : Nat) (ma57 : Nat) (ma58 : Nat) (ma59 : Nat) (ma60 : Nat) (ma64 : Nat) {H : Heap} {locs : List Loc} {ls : Array Slot} (hK : va_K (dC, dI) cls [] s) (hP : va_P (dC, dI) cls [(xh0, .inr (11, [.ref xsl, .ref xwalker_, .ref xrd, .ref xmachine_, .ref xtrial_, .ref xdk])), (xrd, .inr (4, [.ref xlenses_, .int 0, .int 0, .int 0, .int (-1), .int (-1), .ref xtp, .ref xnames_, .ref xquoted_, .ref xlinks_, .ref xwalker2_, .int 0, .int 0, .int 0])), (mh0, .inr (12, [.int 0, .ref ma1, .ref ma2, .ref ma3, .ref ma4, .ref ma5, .int 0, .ref ma7, .ref ma8, .int 0, .ref ma10, .ref ma11, .ref ma12, .ref ma13, .int 0, .ref ma15, .ref ma16, .ref ma17, .ref ma18, .ref ma19, .ref ma20, .ref ma21, .ref ma22, .int 0, .ref ma24, .int 0, .ref ma26, .ref ma27, .int 0, .ref ma29, .ref ma30, .ref ma31, .ref ma32, .ref ma33, .int 0, .ref ma35, .ref ma36, .int 0, .ref ma38, .int 0, .int 0, .int 0, .int 0, .int 0, .long 0, .int 0, .int 0, .int (-1), .int (-1), .int 0, .ref ma50, .ref ma51, .int 0, .int 0, .ref ma54, .ref ma55, .int (-1), .ref ma57, .ref ma58, .ref ma59, .ref ma60, .int 0, .int 0, .int 0, .ref ma64]))] H) (hD : va_D (fun q : Nat => s.heap.size ≤ q) [(xh0, .inr (11, [.ref xsl, .ref xwalker_, .ref xrd, .ref xmachine_, .ref xtrial_, .ref xdk])), (xrd, .inr (4, [.ref xlenses_, .int 0, .int 0, .int 0, .int (-1), .int (-1), .ref xtp, .ref xnames_, .ref xquoted_, .ref xlinks_, .ref xwalker2_, .int 0, .int 0, .int 0])), (mh0, .inr (12, [.int 0, .ref ma1, .ref ma2, .ref ma3, .ref ma4, .ref ma5, .int 0, .ref ma7, .ref ma8, .int 0, .ref ma10, .ref ma11, .ref ma12, .ref ma13, .int 0, .ref ma15, .ref ma16, .ref ma17, .ref ma18, .ref ma19, .ref ma20, .ref ma21, .ref ma22, .int 0, .ref ma24, .int 0, .ref ma26, .ref ma27, .int 0, .ref ma29, .ref ma30, .ref ma31, .ref ma32, .ref ma33, .int 0, .ref ma35, .ref ma36, .int 0, .ref ma38, .int 0, .int 0, .int 0, .int 0, .int 0, .long 0, .int 0, .int 0, .int (-1), .int (-1), .int 0, .ref ma50, .ref ma51, .int 0, .int 0, .ref ma54, .ref ma55, .int (-1), .ref ma57, .ref ma58, .ref ma59, .ref ma60, .int 0, .int 0, .int 0, .ref ma64]))]) (hS : va_S (fun q : Nat => s.heap.size ≤ q) s.heap H locs) (hl : lv_has ls 4 [(3, .int 0), (2, .ref mh0), (1, .ref xh0), (0, .ref b)]) : W p l e room_1 s m #[Value.ref b] below meth c H locs 185 1243858 (lw_Z below #[Value.ref b] s) (F0 m 516 ls []) := by
  obtain ⟨hx, hb, hr, hml, hown0, hts0, hX, hbl, hlocks, hgv⟩ := id C0
  have hown : s.vm.findClass RL = some m.cls := hown0
  have hts : ∀ w ∈ lwS, w.before #[Value.ref b] s = true := fun w h => hts0 w (wsL_law_in w h)
  have hA : ∀ q : Nat, s.heap.size ≤ q → (fun q : Nat => s.heap.size ≤ q) q := fun _ h => h
  have hbA : ¬ (fun q : Nat => s.heap.size ≤ q) b := Nat.not_le.mpr hbl
  refine lv_aload_n hx hb dL_law_516 rfl (lv_at hl 2 rfl) ?_
  refine lv_aload_n hx hb dL_law_517 rfl (lv_at hl 3 rfl) ?_
  refine lv_iload_n hx hb dL_law_518 rfl (lv_at hl 0 rfl) ?_
  refine lv_iconst (v := 1) hx hb dL_law_519 (by decide) ?_
  refine lv_iadd hx hb dL_law_520 ?_
  refine lv_topi (fun z_1 ez_1 => ?_)
  obtain rfl : z_1 = (1 : Int32) := ez_1.trans (by decide)
  refine va_sld hx hb hX hbl hbA hS (by unfold vp_in; decide) dL_law_521 ?_
  refine lv_aload_n hx hb dL_law_522 rfl (lv_at hl 3 rfl) ?_
  refine lv_iload_n hx hb dL_law_523 rfl (lv_at hl 0 rfl) ?_
  refine lv_iconst (v := 2) hx hb dL_law_524 (by decide) ?_
  refine lv_iadd hx hb dL_law_525 ?_
  refine lv_topi (fun z_2 ez_2 => ?_)
  obtain rfl : z_2 = (2 : Int32) := ez_2.trans (by decide)
  refine va_sld hx hb hX hbl hbA hS (by unfold vp_in; decide) dL_law_526 ?_
  refine lv_aload_n hx hb dL_law_527 rfl (lv_at hl 3 rfl) ?_
  refine lv_iload_n hx hb dL_law_528 rfl (lv_at hl 0 rfl) ?_
  refine lv_iconst (v := 3) hx hb dL_law_529 (by decide) ?_
  refine lv_iadd hx hb dL_law_530 ?_
  refine lv_topi (fun z_3 ez_3 => ?_)
  obtain rfl : z_3 = (3 : Int32) := ez_3.trans (by decide)
  refine va_sld hx hb hX hbl hbA hS (by unfold vp_in; decide) dL_law_531 ?_
  have hPc := hP.sub (ws' := [(xh0, .inr (11, [.ref xsl, .ref xwalker_, .ref xrd, .ref xmachine_, .ref xtrial_, .ref xdk])), (xrd, .inr (4, [.ref xlenses_, .int 0, .int 0, .int 0, .int (-1), .int (-1), .ref xtp, .ref xnames_, .ref xquoted_, .ref xlinks_, .ref xwalker2_, .int 0, .int 0, .int 0]))]) [0, 1] rfl
  have hDc := hD.sub (ws' := [(xh0, .inr (11, [.ref xsl, .ref xwalker_, .ref xrd, .ref xmachine_, .ref xtrial_, .ref xdk])), (xrd, .inr (4, [.ref xlenses_, .int 0, .int 0, .int 0, .int (-1), .int (-1), .ref xtp, .ref xnames_, .ref xquoted_, .ref xlinks_, .ref xwalker2_, .int 0, .int 0, .int 0]))]) [0, 1] (by decide) rfl
  have hKc := hK.sub (tys' := []) [] rfl
  have hFc := va_free (wc := [(xh0, .inr (11, [.ref xsl, .ref xwalker_, .ref xrd, .ref xmachine_, .ref xtrial_, .ref xdk])), (xrd, .inr (4, [.ref xlenses_, .int 0, .int 0, .int 0, .int (-1), .int (-1), .ref xtp, .ref xnames_, .ref xquoted_, .ref xlinks_, .ref xwalker2_, .int 0, .int 0, .int 0]))]) hD hS hA [0, 1] rfl
  refine va_calll (va_runV (As := [.int (xs (1 : Int32).toNatClampNeg), .int (xs (2 : Int32).toNatClampNeg), .int (xs (3 : Int32).toNatClampNeg)]) (rest := []) ⟨hx, hb, hml, hown, hts⟩ (k_many l dC dI H.size xh0 (xs (1 : Int32).toNatClampNeg) (xs (2 : Int32).toNatClampNeg) (xs (3 : Int32).toNatClampNeg) xsl xwalker_ xrd xmachine_ xtrial_ xdk xlenses_ xtp xnames_ xquoted_ xlinks_ xwalker2_) (cwV 3 hts gcase_10_60 rfl rfl rfl (by decide +kernel) ⟨Nat.le_of_ble_eq_true rfl, Nat.le_of_ble_eq_true rfl⟩) ⟨fun a U g mk q => by obtain ⟨q0, q1, qP, qK, qD⟩ := q; exact ⟨q0, q1, qP, va_K.moved (u := U) (U := U.calling g mk a) (Vm.Alike.refl U.vm) qK, qD⟩, va_recv hK hP (ci := 11) (q0 := 0) rfl rfl, fun U hU hW => ⟨rfl, by rw [hU], by rw [hU]; exact hPc, va_K.moved hW.alike hKc, hDc.weaken (fun _ _ _ _ => trivial)⟩⟩ rfl rfl hl.1 rfl (lv_room (Nat.le_of_ble_eq_true rfl)) dL_law_532 ⟨Nat.le_of_ble_eq_true rfl, Nat.le_of_ble_eq_true rfl⟩) hS (fun q _ h => hFc q h) hFc (fun r_5 u t H1 locs ht hvm hw hB hz1 hk1 hS => ?_)
  obtain ⟨hP1, hK1, hD1⟩ := hB
  rw [ht] at hP1
  try dsimp only at hw
  obtain ⟨hP, hD⟩ := va_join (wr := [(mh0, .inr (12, [.int 0, .ref ma1, .ref ma2, .ref ma3, .ref ma4, .ref ma5, .int 0, .ref ma7, .ref ma8, .int 0, .ref ma10, .ref ma11, .ref ma12, .ref ma13, .int 0, .ref ma15, .ref ma16, .ref ma17, .ref ma18, .ref ma19, .ref ma20, .ref ma21, .ref ma22, .int 0, .ref ma24, .int 0, .ref ma26, .ref ma27, .int 0, .ref ma29, .ref ma30, .ref ma31, .ref ma32, .ref ma33, .int 0, .ref ma35, .ref ma36, .int 0, .ref ma38, .int 0, .int 0, .int 0, .int 0, .int 0, .long 0, .int 0, .int 0, .int (-1), .int (-1), .int 0, .ref ma50, .ref ma51, .int 0, .int 0, .ref ma54, .ref ma55, .int (-1), .ref ma57, .ref ma58, .ref ma59, .ref ma60, .int 0, .int 0, .int 0, .ref ma64]))]) (w1 := []) hP hD [0, 1] [2] rfl rfl (by decide) (by decide) hk1 hFc hP1 hD1
  clear hk1 hz1 hPc hDc hFc hP1 hD1 hK1 hKc
  generalize H1 = H at hP hS ⊢
  have hP : va_P (dC, dI) cls [(mh0, .inr (12, [.int 0, .ref ma1, .ref ma2, .ref ma3, .ref ma4, .ref ma5, .int 0, .ref ma7, .ref ma8, .int 0, .ref ma10, .ref ma11, .ref ma12, .ref ma13, .int 0, .ref ma15, .ref ma16, .ref ma17, .ref ma18, .ref ma19, .ref ma20, .ref ma21, .ref ma22, .int 0, .ref ma24, .int 0, .ref ma26, .ref ma27, .int 0, .ref ma29, .ref ma30, .ref ma31, .ref ma32, .ref ma33, .int 0, .ref ma35, .ref ma36, .int 0, .ref ma38, .int 0, .int 0, .int 0, .int 0, .int 0, .long 0, .int 0, .int 0, .int (-1), .int (-1), .int 0, .ref ma50, .ref ma51, .int 0, .int 0, .ref ma54, .ref ma55, .int (-1), .ref ma57, .ref ma58, .ref ma59, .ref ma60, .int 0, .int 0, .int 0, .ref ma64]))] H := hP
  have hD : va_D (fun q : Nat => s.heap.size ≤ q) [(mh0, .inr (12, [.int 0, .ref ma1, .ref ma2, .ref ma3, .ref ma4, .ref ma5, .int 0, .ref ma7, .ref ma8, .int 0, .ref ma10, .ref ma11, .ref ma12, .ref ma13, .int 0, .ref ma15, .ref ma16, .ref ma17, .ref ma18, .ref ma19, .ref ma20, .ref ma21, .ref ma22, .int 0, .ref ma24, .int 0, .ref ma26, .ref ma27, .int 0, .ref ma29, .ref ma30, .ref ma31, .ref ma32, .ref ma33, .int 0, .ref ma35, .ref ma36, .int 0, .ref ma38, .int 0, .int 0, .int 0, .int 0, .int 0, .long 0, .int 0, .int 0, .int (-1), .int (-1), .int 0, .ref ma50, .ref ma51, .int 0, .int 0, .ref ma54, .ref ma55, .int (-1), .ref ma57, .ref ma58, .ref ma59, .ref ma60, .int 0, .int 0, .int 0, .ref ma64]))] := hD
  obtain rfl := hw
  refine lv_aload_n hx hb dL_law_535 rfl (lv_at hl 1 rfl) ?_
  refine lv_aload_n hx hb dL_law_536 rfl (lv_at hl 3 rfl) ?_
  refine lv_iload_n hx hb dL_law_537 rfl (lv_at hl 0 rfl) ?_
  refine lv_iconst (v := 1) hx hb dL_law_538 (by decide) ?_
  refine lv_iadd hx hb dL_law_539 ?_
  refine lv_topi (fun z_6 ez_6 => ?_)
  obtain rfl : z_6 = (1 : Int32) := ez_6.trans (by decide)
  refine va_sld hx hb hX hbl hbA hS (by unfold vp_in; decide) dL_law_540 ?_
  refine lv_aload_n hx hb dL_law_541 rfl (lv_at hl 3 rfl) ?_
  refine lv_iload_n hx hb dL_law_542 rfl (lv_at hl 0 rfl) ?_
  refine lv_iconst (v := 2) hx hb dL_law_543 (by decide) ?_
  refine lv_iadd hx hb dL_law_544 ?_
  refine lv_topi (fun z_7 ez_7 => ?_)
  obtain rfl : z_7 = (2 : Int32) := ez_7.trans (by decide)
  refine va_sld hx hb hX hbl hbA hS (by unfold vp_in; decide) dL_law_545 ?_
  refine lv_aload_n hx hb dL_law_546 rfl (lv_at hl 3 rfl) ?_
  refine lv_iload_n hx hb dL_law_547 rfl (lv_at hl 0 rfl) ?_
  refine lv_iconst (v := 3) hx hb dL_law_548 (by decide) ?_
  refine lv_iadd hx hb dL_law_549 ?_
  refine lv_topi (fun z_8 ez_8 => ?_)
  obtain rfl : z_8 = (3 : Int32) := ez_8.trans (by decide)
  refine va_sld hx hb hX hbl hbA hS (by unfold vp_in; decide) dL_law_550 ?_
  have hPc := hP.sub (ws' := [(mh0, .inr (12, [.int 0, .ref ma1, .ref ma2, .ref ma3, .ref ma4, .ref ma5, .int 0, .ref ma7, .ref ma8, .int 0, .ref ma10, .ref ma11, .ref ma12, .ref ma13, .int 0, .ref ma15, .ref ma16, .ref ma17, .ref ma18, .ref ma19, .ref ma20, .ref ma21, .ref ma22, .int 0, .ref ma24, .int 0, .ref ma26, .ref ma27, .int 0, .ref ma29, .ref ma30, .ref ma31, .ref ma32, .ref ma33, .int 0, .ref ma35, .ref ma36, .int 0, .ref ma38, .int 0, .int 0, .int 0, .int 0, .int 0, .long 0, .int 0, .int 0, .int (-1), .int (-1), .int 0, .ref ma50, .ref ma51, .int 0, .int 0, .ref ma54, .ref ma55, .int (-1), .ref ma57, .ref ma58, .ref ma59, .ref ma60, .int 0, .int 0, .int 0, .ref ma64]))]) [0] rfl
  have hDc := hD.sub (ws' := [(mh0, .inr (12, [.int 0, .ref ma1, .ref ma2, .ref ma3, .ref ma4, .ref ma5, .int 0, .ref ma7, .ref ma8, .int 0, .ref ma10, .ref ma11, .ref ma12, .ref ma13, .int 0, .ref ma15, .ref ma16, .ref ma17, .ref ma18, .ref ma19, .ref ma20, .ref ma21, .ref ma22, .int 0, .ref ma24, .int 0, .ref ma26, .ref ma27, .int 0, .ref ma29, .ref ma30, .ref ma31, .ref ma32, .ref ma33, .int 0, .ref ma35, .ref ma36, .int 0, .ref ma38, .int 0, .int 0, .int 0, .int 0, .int 0, .long 0, .int 0, .int 0, .int (-1), .int (-1), .int 0, .ref ma50, .ref ma51, .int 0, .int 0, .ref ma54, .ref ma55, .int (-1), .ref ma57, .ref ma58, .ref ma59, .ref ma60, .int 0, .int 0, .int 0, .ref ma64]))]) [0] (by decide) rfl
  have hKc := hK.sub (tys' := []) [] rfl
  have hFc := va_free (wc := [(mh0, .inr (12, [.int 0, .ref ma1, .ref ma2, .ref ma3, .ref ma4, .ref ma5, .int 0, .ref ma7, .ref ma8, .int 0, .ref ma10, .ref ma11, .ref ma12, .ref ma13, .int 0, .ref ma15, .ref ma16, .ref ma17, .ref ma18, .ref ma19, .ref ma20, .ref ma21, .ref ma22, .int 0, .ref ma24, .int 0, .ref ma26, .ref ma27, .int 0, .ref ma29, .ref ma30, .ref ma31, .ref ma32, .ref ma33, .int 0, .ref ma35, .ref ma36, .int 0, .ref ma38, .int 0, .int 0, .int 0, .int 0, .int 0, .long 0, .int 0, .int 0, .int (-1), .int (-1), .int 0, .ref ma50, .ref ma51, .int 0, .int 0, .ref ma54, .ref ma55, .int (-1), .ref ma57, .ref ma58, .ref ma59, .ref ma60, .int 0, .int 0, .int 0, .ref ma64]))]) hD hS hA [0] rfl
  refine va_calll (va_runV (As := [.int (xs (1 : Int32).toNatClampNeg), .int (xs (2 : Int32).toNatClampNeg), .int (xs (3 : Int32).toNatClampNeg)]) (rest := [.long (-1)]) ⟨hx, hb, hml, hown, hts⟩ (m_many l dC dI H.size mh0 (xs (1 : Int32).toNatClampNeg) (xs (2 : Int32).toNatClampNeg) (xs (3 : Int32).toNatClampNeg) ma1 ma2 ma3 ma4 ma5 ma7 ma8 ma10 ma11 ma12 ma13 ma15 ma16 ma17 ma18 ma19 ma20 ma21 ma22 ma24 ma26 ma27 ma29 ma30 ma31 ma32 ma33 ma35 ma36 ma38 ma50 ma51 ma54 ma55 ma57 ma58 ma59 ma60 ma64) (cwV 3 hts gcase_10_64 rfl rfl rfl (by decide +kernel) ⟨Nat.le_of_ble_eq_true rfl, Nat.le_of_ble_eq_true rfl⟩) ⟨fun a U g mk q => by obtain ⟨q0, q1, qP, qK, qD⟩ := q; exact ⟨q0, q1, qP, va_K.moved (u := U) (U := U.calling g mk a) (Vm.Alike.refl U.vm) qK, qD⟩, va_recv hK hP (ci := 12) (q0 := 0) rfl rfl, fun U hU hW => ⟨rfl, by rw [hU], by rw [hU]; exact hPc, va_K.moved hW.alike hKc, hDc.weaken (fun _ _ _ _ => trivial)⟩⟩ rfl rfl hl.1 rfl (lv_room (Nat.le_of_ble_eq_true rfl)) dL_law_551 ⟨Nat.le_of_ble_eq_true rfl, Nat.le_of_ble_eq_true rfl⟩) hS (fun q _ h => hFc q h) hFc (fun r_10 u t H1 locs ht hvm hw hB hz1 hk1 hS => ?_)
  obtain ⟨hP1, hK1, hD1⟩ := hB
  rw [ht] at hP1
  try dsimp only at hw
  obtain ⟨hP, hD⟩ := va_join (wr := []) (w1 := []) hP hD [0] [] rfl rfl (by decide) (by decide) hk1 hFc hP1 hD1
  clear hk1 hz1 hPc hDc hFc hP1 hD1 hK1 hKc
  generalize H1 = H at hP hS ⊢
  have hP : va_P (dC, dI) cls [] H := hP
  have hD : va_D (fun q : Nat => s.heap.size ≤ q) [] := hD
  obtain rfl := hw
  refine W.lcmp hx hb dL_law_554 ?_
  refine lv_topi (fun z_11 ez_11 => ?_)
  obtain rfl : z_11 = (0 : Int32) := ez_11.trans (by decide)
  refine lv_if_eq (tgt := 1218) hx hb dL_law_555 (by decide) (fun c_12 => ?_) (fun c_12 => ?_)
  rotate_left
  · exact (by revert c_12; decide : False).elim
  exact law_tail l C0 hS (Nat.le_of_ble_eq_true rfl) (Nat.le_of_ble_eq_true rfl) (lv_sub hl [3, 0] rfl)
theorem gcase_11_65g : GoodIn lwS wk_nth := goodIn_r _ [415, 361, 362, 363, 202, 364, 365, 366, 367, 368, 190, 369, 320, 321, 322, 323, 324, 57, 58, 59, 60, 61, 62, 63, 64, 65, 66, 67, 68, 69, 70, 118, 119, 120, 121, 122, 123] (by decide +kernel) (by decide +kernel)
theorem gcase_11_65 : GoodIn lwS (wsV RL 65 RX11 yX11_nth wk_nth) := goodIn_app (goodIn_r _ [416, 417, 418, 202] (by decide +kernel) (by decide +kernel)) gcase_11_65g
theorem gcase_11_68g : GoodIn lwS wm_nth := goodIn_r _ [419, 204, 374, 375, 376, 210, 377, 292, 216, 217, 218, 219, 124, 125, 126, 127, 128, 129, 130, 131, 132, 133, 134, 135, 136, 137, 138, 139, 140, 141, 142, 143, 144, 145, 146, 147, 148, 149, 150, 151, 152, 153, 154, 155, 156, 157, 158, 159, 160, 161, 162, 163, 164, 165, 166, 167, 168, 169, 170, 171, 172, 173, 174, 175, 176, 177, 178, 179, 180, 181, 182, 183, 184, 185, 186, 187, 188] (by decide +kernel) (by decide +kernel)
theorem gcase_11_68 : GoodIn lwS (wsV RL 68 RX12 yX12_nth wm_nth) := goodIn_app (goodIn_r _ [420, 421, 422, 210] (by decide +kernel) (by decide +kernel)) gcase_11_68g
set_option maxHeartbeats 4000000 in
set_option maxRecDepth 100000 in
theorem case_11 {p : Program} {e : Env} {s : State} {m : MethodId} {below : List Frame} {meth : Method} {c : Code} (l : Launch) {b : Nat} {xs : Nat → Int32} (C0 : lw_At p s m meth c b 6 xs) (dC : Nat → ClassId) (dI : Nat → Nat → Nat) (mh0 : Nat) (xh0 : Nat) (xsl : Nat) (xwalker_ : Nat) (xrd : Nat) (xmachine_ : Nat) (xtrial_ : Nat) (xdk : Nat) (xcT : ClassId) (xfT : Nat → Option Nat) (xlenses_ : Nat) (xtp : Nat) (xnames_ : Nat) (xquoted_ : Nat) (xlinks_ : Nat) (xwalker2_ : Nat) (ma1 : Nat) (ma2 : Nat) (ma3 : Nat) (ma4 : Nat) (ma5 : Nat) (ma7 : Nat) (ma8 : Nat) (ma10 : Nat) (ma11 : Nat) (ma12 : Nat) (ma13 : Nat) (ma15 : Nat) (ma16 : Nat) (ma17 : Nat) (ma18 : Nat) (ma19 : Nat) (ma20 : Nat) (ma21 : Nat) (ma22 : Nat) (ma24 : Nat) (ma26 : Nat) (ma27 : Nat) (ma29 : Nat) (ma30 : Nat) (ma31 : Nat) (ma32 : Nat) (ma33 : Nat) (ma35 : Nat) (ma36 : Nat) (ma38 : Nat) (ma50 : Nat) (ma51 : Nat) (ma54 : Nat) (ma55 : Nat) (ma57 : Nat) (ma58 : Nat) (ma59 : Nat) (ma60 : Nat) (ma64 : Nat) (hf0 : ∀ i : Int32, inS i → ∃ t, xfT i.toNatClampNeg = some t) {H : Heap} {locs : List Loc} {ls : Array Slot} (hK : va_K (dC, dI) cls [(xcT, .object RX6)] s) (hP : va_P (dC, dI) cls [(xh0, .inr (11, [.ref xsl, .ref xwalker_, .ref xrd, .ref xmachine_, .ref xtrial_, .ref xdk])), (xsl, .inl (xcT, 8, .inr (.inr (.inr (.inr xfT))))), (xrd, .inr (4, [.ref xlenses_, .int 0, .int 0, .int 0, .int (-1), .int (-1), .ref xtp, .ref xnames_, .ref xquoted_, .ref xlinks_, .ref xwalker2_, .int 0, .int 0, .int 0])), (mh0, .inr (12, [.int 0, .ref ma1, .ref ma2, .ref ma3, .ref ma4, .ref ma5, .int 0, .ref ma7, .ref ma8, .int 0, .ref ma10, .ref ma11, .ref ma12, .ref ma13, .int 0, .ref ma15, .ref ma16, .ref ma17, .ref ma18, .ref ma19, .ref ma20, .ref ma21, .ref ma22, .int 0, .ref ma24, .int 0, .ref ma26, .ref ma27, .int 0, .ref ma29, .ref ma30, .ref ma31, .ref ma32, .ref ma33, .int 0, .ref ma35, .ref ma36, .int 0, .ref ma38, .int 0, .int 0, .int 0, .int 0, .int 0, .long 0, .int 0, .int 0, .int (-1), .int (-1), .int 0, .ref ma50, .ref ma51, .int 0, .int 0, .ref ma54, .ref ma55, .int (-1), .ref ma57, .ref ma58, .ref ma59, .ref ma60, .int 0, .int 0, .int 0, .ref ma64]))] H) (hD : va_D (fun q : Nat => s.heap.size ≤ q) [(xh0, .inr (11, [.ref xsl, .ref xwalker_, .ref xrd, .ref xmachine_, .ref xtrial_, .ref xdk])), (xsl, .inl (xcT, 8, .inr (.inr (.inr (.inr xfT))))), (xrd, .inr (4, [.ref xlenses_, .int 0, .int 0, .int 0, .int (-1), .int (-1), .ref xtp, .ref xnames_, .ref xquoted_, .ref xlinks_, .ref xwalker2_, .int 0, .int 0, .int 0])), (mh0, .inr (12, [.int 0, .ref ma1, .ref ma2, .ref ma3, .ref ma4, .ref ma5, .int 0, .ref ma7, .ref ma8, .int 0, .ref ma10, .ref ma11, .ref ma12, .ref ma13, .int 0, .ref ma15, .ref ma16, .ref ma17, .ref ma18, .ref ma19, .ref ma20, .ref ma21, .ref ma22, .int 0, .ref ma24, .int 0, .ref ma26, .ref ma27, .int 0, .ref ma29, .ref ma30, .ref ma31, .ref ma32, .ref ma33, .int 0, .ref ma35, .ref ma36, .int 0, .ref ma38, .int 0, .int 0, .int 0, .int 0, .int 0, .long 0, .int 0, .int 0, .int (-1), .int (-1), .int 0, .ref ma50, .ref ma51, .int 0, .int 0, .ref ma54, .ref ma55, .int (-1), .ref ma57, .ref ma58, .ref ma59, .ref ma60, .int 0, .int 0, .int 0, .ref ma64]))]) (hS : va_S (fun q : Nat => s.heap.size ≤ q) s.heap H locs) (hl : lv_has ls 4 [(3, .int 0), (2, .ref mh0), (1, .ref xh0), (0, .ref b)]) : W p l e room_1 s m #[Value.ref b] below meth c H locs 185 1243858 (lw_Z below #[Value.ref b] s) (F0 m 560 ls []) := by
  obtain ⟨hx, hb, hr, hml, hown0, hts0, hX, hbl, hlocks, hgv⟩ := id C0
  have hown : s.vm.findClass RL = some m.cls := hown0
  have hts : ∀ w ∈ lwS, w.before #[Value.ref b] s = true := fun w h => hts0 w (wsL_law_in w h)
  have hA : ∀ q : Nat, s.heap.size ≤ q → (fun q : Nat => s.heap.size ≤ q) q := fun _ h => h
  have hbA : ¬ (fun q : Nat => s.heap.size ≤ q) b := Nat.not_le.mpr hbl
  refine lv_aload_n hx hb dL_law_560 rfl (lv_at hl 2 rfl) ?_
  refine lv_aload_n hx hb dL_law_561 rfl (lv_at hl 3 rfl) ?_
  refine lv_iload_n hx hb dL_law_562 rfl (lv_at hl 0 rfl) ?_
  refine lv_iconst (v := 1) hx hb dL_law_563 (by decide) ?_
  refine lv_iadd hx hb dL_law_564 ?_
  refine lv_topi (fun z_1 ez_1 => ?_)
  obtain rfl : z_1 = (1 : Int32) := ez_1.trans (by decide)
  refine va_sld hx hb hX hbl hbA hS (by unfold vp_in; decide) dL_law_565 ?_
  refine lv_aload_n hx hb dL_law_566 rfl (lv_at hl 3 rfl) ?_
  refine lv_iload_n hx hb dL_law_567 rfl (lv_at hl 0 rfl) ?_
  refine lv_iconst (v := 2) hx hb dL_law_568 (by decide) ?_
  refine lv_iadd hx hb dL_law_569 ?_
  refine lv_topi (fun z_2 ez_2 => ?_)
  obtain rfl : z_2 = (2 : Int32) := ez_2.trans (by decide)
  refine va_sld hx hb hX hbl hbA hS (by unfold vp_in; decide) dL_law_570 ?_
  refine lv_aload_n hx hb dL_law_571 rfl (lv_at hl 3 rfl) ?_
  refine lv_iload_n hx hb dL_law_572 rfl (lv_at hl 0 rfl) ?_
  refine lv_iconst (v := 3) hx hb dL_law_573 (by decide) ?_
  refine lv_iadd hx hb dL_law_574 ?_
  refine lv_topi (fun z_3 ez_3 => ?_)
  obtain rfl : z_3 = (3 : Int32) := ez_3.trans (by decide)
  refine va_sld hx hb hX hbl hbA hS (by unfold vp_in; decide) dL_law_575 ?_
  refine lv_aload_n hx hb dL_law_576 rfl (lv_at hl 3 rfl) ?_
  refine lv_iload_n hx hb dL_law_577 rfl (lv_at hl 0 rfl) ?_
  refine lv_iconst (v := 4) hx hb dL_law_578 (by decide) ?_
  refine lv_iadd hx hb dL_law_579 ?_
  refine lv_topi (fun z_4 ez_4 => ?_)
  obtain rfl : z_4 = (4 : Int32) := ez_4.trans (by decide)
  refine va_sld hx hb hX hbl hbA hS (by unfold vp_in; decide) dL_law_580 ?_
  have hPc := hP.sub (ws' := [(xh0, .inr (11, [.ref xsl, .ref xwalker_, .ref xrd, .ref xmachine_, .ref xtrial_, .ref xdk])), (xsl, .inl (xcT, 8, .inr (.inr (.inr (.inr xfT))))), (xrd, .inr (4, [.ref xlenses_, .int 0, .int 0, .int 0, .int (-1), .int (-1), .ref xtp, .ref xnames_, .ref xquoted_, .ref xlinks_, .ref xwalker2_, .int 0, .int 0, .int 0]))]) [0, 1, 2] rfl
  have hDc := hD.sub (ws' := [(xh0, .inr (11, [.ref xsl, .ref xwalker_, .ref xrd, .ref xmachine_, .ref xtrial_, .ref xdk])), (xsl, .inl (xcT, 8, .inr (.inr (.inr (.inr xfT))))), (xrd, .inr (4, [.ref xlenses_, .int 0, .int 0, .int 0, .int (-1), .int (-1), .ref xtp, .ref xnames_, .ref xquoted_, .ref xlinks_, .ref xwalker2_, .int 0, .int 0, .int 0]))]) [0, 1, 2] (by decide) rfl
  have hKc := hK.sub (tys' := [(xcT, .object RX6)]) [0] rfl
  have hFc := va_free (wc := [(xh0, .inr (11, [.ref xsl, .ref xwalker_, .ref xrd, .ref xmachine_, .ref xtrial_, .ref xdk])), (xsl, .inl (xcT, 8, .inr (.inr (.inr (.inr xfT))))), (xrd, .inr (4, [.ref xlenses_, .int 0, .int 0, .int 0, .int (-1), .int (-1), .ref xtp, .ref xnames_, .ref xquoted_, .ref xlinks_, .ref xwalker2_, .int 0, .int 0, .int 0]))]) hD hS hA [0, 1, 2] rfl
  refine va_calli (va_runV (As := [.int (xs (1 : Int32).toNatClampNeg), .int (xs (2 : Int32).toNatClampNeg), .int (xs (3 : Int32).toNatClampNeg), .int (xs (4 : Int32).toNatClampNeg)]) (rest := []) ⟨hx, hb, hml, hown, hts⟩ (k_nth l dC dI H.size xh0 (xs (1 : Int32).toNatClampNeg) (xs (2 : Int32).toNatClampNeg) (xs (3 : Int32).toNatClampNeg) (xs (4 : Int32).toNatClampNeg) xsl xwalker_ xrd xmachine_ xtrial_ xdk xcT xfT xlenses_ xtp xnames_ xquoted_ xlinks_ xwalker2_ hf0) (cwV 4 hts gcase_11_65 rfl rfl rfl (by decide +kernel) ⟨Nat.le_of_ble_eq_true rfl, Nat.le_of_ble_eq_true rfl⟩) ⟨fun a U g mk q => by obtain ⟨q0, q1, qP, qK, qD⟩ := q; exact ⟨q0, q1, qP, va_K.moved (u := U) (U := U.calling g mk a) (Vm.Alike.refl U.vm) qK, qD⟩, va_recv hK hP (ci := 11) (q0 := 0) rfl rfl, fun U hU hW => ⟨rfl, by rw [hU], by rw [hU]; exact hPc, va_K.moved hW.alike hKc, hDc.weaken (fun _ _ _ _ => trivial)⟩⟩ rfl rfl hl.1 rfl (lv_room (Nat.le_of_ble_eq_true rfl)) dL_law_581 ⟨Nat.le_of_ble_eq_true rfl, Nat.le_of_ble_eq_true rfl⟩) hS (fun q _ h => hFc q h) hFc (fun r_6 u t H1 locs ht hvm hw hB hz1 hk1 hS => ?_)
  obtain ⟨hP1, hK1, hD1⟩ := hB
  rw [ht] at hP1
  try dsimp only at hw
  obtain ⟨hP, hD⟩ := va_join (wr := [(mh0, .inr (12, [.int 0, .ref ma1, .ref ma2, .ref ma3, .ref ma4, .ref ma5, .int 0, .ref ma7, .ref ma8, .int 0, .ref ma10, .ref ma11, .ref ma12, .ref ma13, .int 0, .ref ma15, .ref ma16, .ref ma17, .ref ma18, .ref ma19, .ref ma20, .ref ma21, .ref ma22, .int 0, .ref ma24, .int 0, .ref ma26, .ref ma27, .int 0, .ref ma29, .ref ma30, .ref ma31, .ref ma32, .ref ma33, .int 0, .ref ma35, .ref ma36, .int 0, .ref ma38, .int 0, .int 0, .int 0, .int 0, .int 0, .long 0, .int 0, .int 0, .int (-1), .int (-1), .int 0, .ref ma50, .ref ma51, .int 0, .int 0, .ref ma54, .ref ma55, .int (-1), .ref ma57, .ref ma58, .ref ma59, .ref ma60, .int 0, .int 0, .int 0, .ref ma64]))]) (w1 := []) hP hD [0, 1, 2] [3] rfl rfl (by decide) (by decide) hk1 hFc hP1 hD1
  clear hk1 hz1 hPc hDc hFc hP1 hD1 hK1 hKc
  generalize H1 = H at hP hS ⊢
  have hP : va_P (dC, dI) cls [(mh0, .inr (12, [.int 0, .ref ma1, .ref ma2, .ref ma3, .ref ma4, .ref ma5, .int 0, .ref ma7, .ref ma8, .int 0, .ref ma10, .ref ma11, .ref ma12, .ref ma13, .int 0, .ref ma15, .ref ma16, .ref ma17, .ref ma18, .ref ma19, .ref ma20, .ref ma21, .ref ma22, .int 0, .ref ma24, .int 0, .ref ma26, .ref ma27, .int 0, .ref ma29, .ref ma30, .ref ma31, .ref ma32, .ref ma33, .int 0, .ref ma35, .ref ma36, .int 0, .ref ma38, .int 0, .int 0, .int 0, .int 0, .int 0, .long 0, .int 0, .int 0, .int (-1), .int (-1), .int 0, .ref ma50, .ref ma51, .int 0, .int 0, .ref ma54, .ref ma55, .int (-1), .ref ma57, .ref ma58, .ref ma59, .ref ma60, .int 0, .int 0, .int 0, .ref ma64]))] H := hP
  have hD : va_D (fun q : Nat => s.heap.size ≤ q) [(mh0, .inr (12, [.int 0, .ref ma1, .ref ma2, .ref ma3, .ref ma4, .ref ma5, .int 0, .ref ma7, .ref ma8, .int 0, .ref ma10, .ref ma11, .ref ma12, .ref ma13, .int 0, .ref ma15, .ref ma16, .ref ma17, .ref ma18, .ref ma19, .ref ma20, .ref ma21, .ref ma22, .int 0, .ref ma24, .int 0, .ref ma26, .ref ma27, .int 0, .ref ma29, .ref ma30, .ref ma31, .ref ma32, .ref ma33, .int 0, .ref ma35, .ref ma36, .int 0, .ref ma38, .int 0, .int 0, .int 0, .int 0, .int 0, .long 0, .int 0, .int 0, .int (-1), .int (-1), .int 0, .ref ma50, .ref ma51, .int 0, .int 0, .ref ma54, .ref ma55, .int (-1), .ref ma57, .ref ma58, .ref ma59, .ref ma60, .int 0, .int 0, .int 0, .ref ma64]))] := hD
  obtain rfl := hw
  refine lv_aload_n hx hb dL_law_584 rfl (lv_at hl 1 rfl) ?_
  refine lv_aload_n hx hb dL_law_585 rfl (lv_at hl 3 rfl) ?_
  refine lv_iload_n hx hb dL_law_586 rfl (lv_at hl 0 rfl) ?_
  refine lv_iconst (v := 1) hx hb dL_law_587 (by decide) ?_
  refine lv_iadd hx hb dL_law_588 ?_
  refine lv_topi (fun z_7 ez_7 => ?_)
  obtain rfl : z_7 = (1 : Int32) := ez_7.trans (by decide)
  refine va_sld hx hb hX hbl hbA hS (by unfold vp_in; decide) dL_law_589 ?_
  refine lv_aload_n hx hb dL_law_590 rfl (lv_at hl 3 rfl) ?_
  refine lv_iload_n hx hb dL_law_591 rfl (lv_at hl 0 rfl) ?_
  refine lv_iconst (v := 2) hx hb dL_law_592 (by decide) ?_
  refine lv_iadd hx hb dL_law_593 ?_
  refine lv_topi (fun z_8 ez_8 => ?_)
  obtain rfl : z_8 = (2 : Int32) := ez_8.trans (by decide)
  refine va_sld hx hb hX hbl hbA hS (by unfold vp_in; decide) dL_law_594 ?_
  refine lv_aload_n hx hb dL_law_595 rfl (lv_at hl 3 rfl) ?_
  refine lv_iload_n hx hb dL_law_596 rfl (lv_at hl 0 rfl) ?_
  refine lv_iconst (v := 3) hx hb dL_law_597 (by decide) ?_
  refine lv_iadd hx hb dL_law_598 ?_
  refine lv_topi (fun z_9 ez_9 => ?_)
  obtain rfl : z_9 = (3 : Int32) := ez_9.trans (by decide)
  refine va_sld hx hb hX hbl hbA hS (by unfold vp_in; decide) dL_law_599 ?_
  refine lv_aload_n hx hb dL_law_600 rfl (lv_at hl 3 rfl) ?_
  refine lv_iload_n hx hb dL_law_601 rfl (lv_at hl 0 rfl) ?_
  refine lv_iconst (v := 4) hx hb dL_law_602 (by decide) ?_
  refine lv_iadd hx hb dL_law_603 ?_
  refine lv_topi (fun z_10 ez_10 => ?_)
  obtain rfl : z_10 = (4 : Int32) := ez_10.trans (by decide)
  refine va_sld hx hb hX hbl hbA hS (by unfold vp_in; decide) dL_law_604 ?_
  have hPc := hP.sub (ws' := [(mh0, .inr (12, [.int 0, .ref ma1, .ref ma2, .ref ma3, .ref ma4, .ref ma5, .int 0, .ref ma7, .ref ma8, .int 0, .ref ma10, .ref ma11, .ref ma12, .ref ma13, .int 0, .ref ma15, .ref ma16, .ref ma17, .ref ma18, .ref ma19, .ref ma20, .ref ma21, .ref ma22, .int 0, .ref ma24, .int 0, .ref ma26, .ref ma27, .int 0, .ref ma29, .ref ma30, .ref ma31, .ref ma32, .ref ma33, .int 0, .ref ma35, .ref ma36, .int 0, .ref ma38, .int 0, .int 0, .int 0, .int 0, .int 0, .long 0, .int 0, .int 0, .int (-1), .int (-1), .int 0, .ref ma50, .ref ma51, .int 0, .int 0, .ref ma54, .ref ma55, .int (-1), .ref ma57, .ref ma58, .ref ma59, .ref ma60, .int 0, .int 0, .int 0, .ref ma64]))]) [0] rfl
  have hDc := hD.sub (ws' := [(mh0, .inr (12, [.int 0, .ref ma1, .ref ma2, .ref ma3, .ref ma4, .ref ma5, .int 0, .ref ma7, .ref ma8, .int 0, .ref ma10, .ref ma11, .ref ma12, .ref ma13, .int 0, .ref ma15, .ref ma16, .ref ma17, .ref ma18, .ref ma19, .ref ma20, .ref ma21, .ref ma22, .int 0, .ref ma24, .int 0, .ref ma26, .ref ma27, .int 0, .ref ma29, .ref ma30, .ref ma31, .ref ma32, .ref ma33, .int 0, .ref ma35, .ref ma36, .int 0, .ref ma38, .int 0, .int 0, .int 0, .int 0, .int 0, .long 0, .int 0, .int 0, .int (-1), .int (-1), .int 0, .ref ma50, .ref ma51, .int 0, .int 0, .ref ma54, .ref ma55, .int (-1), .ref ma57, .ref ma58, .ref ma59, .ref ma60, .int 0, .int 0, .int 0, .ref ma64]))]) [0] (by decide) rfl
  have hKc := hK.sub (tys' := []) [] rfl
  have hFc := va_free (wc := [(mh0, .inr (12, [.int 0, .ref ma1, .ref ma2, .ref ma3, .ref ma4, .ref ma5, .int 0, .ref ma7, .ref ma8, .int 0, .ref ma10, .ref ma11, .ref ma12, .ref ma13, .int 0, .ref ma15, .ref ma16, .ref ma17, .ref ma18, .ref ma19, .ref ma20, .ref ma21, .ref ma22, .int 0, .ref ma24, .int 0, .ref ma26, .ref ma27, .int 0, .ref ma29, .ref ma30, .ref ma31, .ref ma32, .ref ma33, .int 0, .ref ma35, .ref ma36, .int 0, .ref ma38, .int 0, .int 0, .int 0, .int 0, .int 0, .long 0, .int 0, .int 0, .int (-1), .int (-1), .int 0, .ref ma50, .ref ma51, .int 0, .int 0, .ref ma54, .ref ma55, .int (-1), .ref ma57, .ref ma58, .ref ma59, .ref ma60, .int 0, .int 0, .int 0, .ref ma64]))]) hD hS hA [0] rfl
  refine va_calli (va_runV (As := [.int (xs (1 : Int32).toNatClampNeg), .int (xs (2 : Int32).toNatClampNeg), .int (xs (3 : Int32).toNatClampNeg), .int (xs (4 : Int32).toNatClampNeg)]) (rest := [.int (-1)]) ⟨hx, hb, hml, hown, hts⟩ (m_nth l dC dI H.size mh0 (xs (1 : Int32).toNatClampNeg) (xs (2 : Int32).toNatClampNeg) (xs (3 : Int32).toNatClampNeg) (xs (4 : Int32).toNatClampNeg) ma1 ma2 ma3 ma4 ma5 ma7 ma8 ma10 ma11 ma12 ma13 ma15 ma16 ma17 ma18 ma19 ma20 ma21 ma22 ma24 ma26 ma27 ma29 ma30 ma31 ma32 ma33 ma35 ma36 ma38 ma50 ma51 ma54 ma55 ma57 ma58 ma59 ma60 ma64) (cwV 4 hts gcase_11_68 rfl rfl rfl (by decide +kernel) ⟨Nat.le_of_ble_eq_true rfl, Nat.le_of_ble_eq_true rfl⟩) ⟨fun a U g mk q => by obtain ⟨q0, q1, qP, qK, qD⟩ := q; exact ⟨q0, q1, qP, va_K.moved (u := U) (U := U.calling g mk a) (Vm.Alike.refl U.vm) qK, qD⟩, va_recv hK hP (ci := 12) (q0 := 0) rfl rfl, fun U hU hW => ⟨rfl, by rw [hU], by rw [hU]; exact hPc, va_K.moved hW.alike hKc, hDc.weaken (fun _ _ _ _ => trivial)⟩⟩ rfl rfl hl.1 rfl (lv_room (Nat.le_of_ble_eq_true rfl)) dL_law_605 ⟨Nat.le_of_ble_eq_true rfl, Nat.le_of_ble_eq_true rfl⟩) hS (fun q _ h => hFc q h) hFc (fun r_12 u t H1 locs ht hvm hw hB hz1 hk1 hS => ?_)
  obtain ⟨hP1, hK1, hD1⟩ := hB
  rw [ht] at hP1
  try dsimp only at hw
  obtain ⟨hP, hD⟩ := va_join (wr := []) (w1 := []) hP hD [0] [] rfl rfl (by decide) (by decide) hk1 hFc hP1 hD1
  clear hk1 hz1 hPc hDc hFc hP1 hD1 hK1 hKc
  generalize H1 = H at hP hS ⊢
  have hP : va_P (dC, dI) cls [] H := hP
  have hD : va_D (fun q : Nat => s.heap.size ≤ q) [] := hD
  obtain rfl := hw
  refine lv_icmp_eq (tgt := 1218) hx hb dL_law_608 (by decide) (fun c_13 => ?_) (fun c_13 => ?_)
  rotate_left
  · exact (by revert c_13; decide : False).elim
  exact law_tail l C0 hS (Nat.le_of_ble_eq_true rfl) (Nat.le_of_ble_eq_true rfl) (lv_sub hl [3, 0] rfl)
theorem gcase_12_69g : GoodIn lwS wk_compare := goodIn_r _ [423, 361, 362, 363, 202, 364, 365, 366, 367, 368, 190, 369, 57, 58, 59, 60, 61, 62, 63, 64, 65, 66, 67, 68, 69, 70, 118, 119, 120, 121, 122, 123] (by decide +kernel) (by decide +kernel)
theorem gcase_12_69 : GoodIn lwS (wsV RL 69 RX11 yX11_compare wk_compare) := goodIn_app (goodIn_r _ [424, 425, 426, 202] (by decide +kernel) (by decide +kernel)) gcase_12_69g
theorem gcase_12_72g : GoodIn lwS wm_compare := goodIn_r _ [427, 204, 374, 375, 376, 210, 377, 292, 216, 217, 218, 219, 124, 125, 126, 127, 128, 129, 130, 131, 132, 133, 134, 135, 136, 137, 138, 139, 140, 141, 142, 143, 144, 145, 146, 147, 148, 149, 150, 151, 152, 153, 154, 155, 156, 157, 158, 159, 160, 161, 162, 163, 164, 165, 166, 167, 168, 169, 170, 171, 172, 173, 174, 175, 176, 177, 178, 179, 180, 181, 182, 183, 184, 185, 186, 187, 188] (by decide +kernel) (by decide +kernel)
theorem gcase_12_72 : GoodIn lwS (wsV RL 72 RX12 yX12_compare wm_compare) := goodIn_app (goodIn_r _ [428, 429, 430, 210] (by decide +kernel) (by decide +kernel)) gcase_12_72g
set_option maxHeartbeats 4000000 in
set_option maxRecDepth 100000 in
theorem case_12 {p : Program} {e : Env} {s : State} {m : MethodId} {below : List Frame} {meth : Method} {c : Code} (l : Launch) {b : Nat} {xs : Nat → Int32} (C0 : lw_At p s m meth c b 6 xs) (dC : Nat → ClassId) (dI : Nat → Nat → Nat) (mh0 : Nat) (xh0 : Nat) (xsl : Nat) (xwalker_ : Nat) (xrd : Nat) (xmachine_ : Nat) (xtrial_ : Nat) (xdk : Nat) (xlenses_ : Nat) (xtp : Nat) (xnames_ : Nat) (xquoted_ : Nat) (xlinks_ : Nat) (xwalker2_ : Nat) (ma1 : Nat) (ma2 : Nat) (ma3 : Nat) (ma4 : Nat) (ma5 : Nat) (ma7 : Nat) (ma8 : Nat) (ma10 : Nat) (ma11 : Nat) (ma12 : Nat) (ma13 : Nat) (ma15 : Nat) (ma16 : Nat) (ma17 : Nat) (ma18 : Nat) (ma19 : Nat) (ma20 : Nat) (ma21 : Nat) (ma22 : Nat) (ma24 : Nat) (ma26 : Nat) (ma27 : Nat) (ma29 : Nat) (ma30 : Nat) (ma31 : Nat) (ma32 : Nat) (ma33 : Nat) (ma35 : Nat) (ma36 : Nat) (ma38 : Nat) (ma50 : Nat) (ma51 : Nat) (ma54 : Nat) (ma55 : Nat) (ma57 : Nat) (ma58 : Nat) (ma59 : Nat) (ma60 : Nat) (ma64 : Nat) {H : Heap} {locs : List Loc} {ls : Array Slot} (hK : va_K (dC, dI) cls [] s) (hP : va_P (dC, dI) cls [(xh0, .inr (11, [.ref xsl, .ref xwalker_, .ref xrd, .ref xmachine_, .ref xtrial_, .ref xdk])), (xrd, .inr (4, [.ref xlenses_, .int 0, .int 0, .int 0, .int (-1), .int (-1), .ref xtp, .ref xnames_, .ref xquoted_, .ref xlinks_, .ref xwalker2_, .int 0, .int 0, .int 0])), (mh0, .inr (12, [.int 0, .ref ma1, .ref ma2, .ref ma3, .ref ma4, .ref ma5, .int 0, .ref ma7, .ref ma8, .int 0, .ref ma10, .ref ma11, .ref ma12, .ref ma13, .int 0, .ref ma15, .ref ma16, .ref ma17, .ref ma18, .ref ma19, .ref ma20, .ref ma21, .ref ma22, .int 0, .ref ma24, .int 0, .ref ma26, .ref ma27, .int 0, .ref ma29, .ref ma30, .ref ma31, .ref ma32, .ref ma33, .int 0, .ref ma35, .ref ma36, .int 0, .ref ma38, .int 0, .int 0, .int 0, .int 0, .int 0, .long 0, .int 0, .int 0, .int (-1), .int (-1), .int 0, .ref ma50, .ref ma51, .int 0, .int 0, .ref ma54, .ref ma55, .int (-1), .ref ma57, .ref ma58, .ref ma59, .ref ma60, .int 0, .int 0, .int 0, .ref ma64]))] H) (hD : va_D (fun q : Nat => s.heap.size ≤ q) [(xh0, .inr (11, [.ref xsl, .ref xwalker_, .ref xrd, .ref xmachine_, .ref xtrial_, .ref xdk])), (xrd, .inr (4, [.ref xlenses_, .int 0, .int 0, .int 0, .int (-1), .int (-1), .ref xtp, .ref xnames_, .ref xquoted_, .ref xlinks_, .ref xwalker2_, .int 0, .int 0, .int 0])), (mh0, .inr (12, [.int 0, .ref ma1, .ref ma2, .ref ma3, .ref ma4, .ref ma5, .int 0, .ref ma7, .ref ma8, .int 0, .ref ma10, .ref ma11, .ref ma12, .ref ma13, .int 0, .ref ma15, .ref ma16, .ref ma17, .ref ma18, .ref ma19, .ref ma20, .ref ma21, .ref ma22, .int 0, .ref ma24, .int 0, .ref ma26, .ref ma27, .int 0, .ref ma29, .ref ma30, .ref ma31, .ref ma32, .ref ma33, .int 0, .ref ma35, .ref ma36, .int 0, .ref ma38, .int 0, .int 0, .int 0, .int 0, .int 0, .long 0, .int 0, .int 0, .int (-1), .int (-1), .int 0, .ref ma50, .ref ma51, .int 0, .int 0, .ref ma54, .ref ma55, .int (-1), .ref ma57, .ref ma58, .ref ma59, .ref ma60, .int 0, .int 0, .int 0, .ref ma64]))]) (hS : va_S (fun q : Nat => s.heap.size ≤ q) s.heap H locs) (hl : lv_has ls 4 [(3, .int 0), (2, .ref mh0), (1, .ref xh0), (0, .ref b)]) : W p l e room_1 s m #[Value.ref b] below meth c H locs 185 1243858 (lw_Z below #[Value.ref b] s) (F0 m 613 ls []) := by
  obtain ⟨hx, hb, hr, hml, hown0, hts0, hX, hbl, hlocks, hgv⟩ := id C0
  have hown : s.vm.findClass RL = some m.cls := hown0
  have hts : ∀ w ∈ lwS, w.before #[Value.ref b] s = true := fun w h => hts0 w (wsL_law_in w h)
  have hA : ∀ q : Nat, s.heap.size ≤ q → (fun q : Nat => s.heap.size ≤ q) q := fun _ h => h
  have hbA : ¬ (fun q : Nat => s.heap.size ≤ q) b := Nat.not_le.mpr hbl
  refine lv_aload_n hx hb dL_law_613 rfl (lv_at hl 2 rfl) ?_
  refine lv_aload_n hx hb dL_law_614 rfl (lv_at hl 3 rfl) ?_
  refine lv_iload_n hx hb dL_law_615 rfl (lv_at hl 0 rfl) ?_
  refine lv_iconst (v := 1) hx hb dL_law_616 (by decide) ?_
  refine lv_iadd hx hb dL_law_617 ?_
  refine lv_topi (fun z_1 ez_1 => ?_)
  obtain rfl : z_1 = (1 : Int32) := ez_1.trans (by decide)
  refine va_sld hx hb hX hbl hbA hS (by unfold vp_in; decide) dL_law_618 ?_
  refine lv_aload_n hx hb dL_law_619 rfl (lv_at hl 3 rfl) ?_
  refine lv_iload_n hx hb dL_law_620 rfl (lv_at hl 0 rfl) ?_
  refine lv_iconst (v := 2) hx hb dL_law_621 (by decide) ?_
  refine lv_iadd hx hb dL_law_622 ?_
  refine lv_topi (fun z_2 ez_2 => ?_)
  obtain rfl : z_2 = (2 : Int32) := ez_2.trans (by decide)
  refine va_sld hx hb hX hbl hbA hS (by unfold vp_in; decide) dL_law_623 ?_
  refine lv_aload_n hx hb dL_law_624 rfl (lv_at hl 3 rfl) ?_
  refine lv_iload_n hx hb dL_law_625 rfl (lv_at hl 0 rfl) ?_
  refine lv_iconst (v := 3) hx hb dL_law_626 (by decide) ?_
  refine lv_iadd hx hb dL_law_627 ?_
  refine lv_topi (fun z_3 ez_3 => ?_)
  obtain rfl : z_3 = (3 : Int32) := ez_3.trans (by decide)
  refine va_sld hx hb hX hbl hbA hS (by unfold vp_in; decide) dL_law_628 ?_
  refine lv_aload_n hx hb dL_law_629 rfl (lv_at hl 3 rfl) ?_
  refine lv_iload_n hx hb dL_law_630 rfl (lv_at hl 0 rfl) ?_
  refine lv_iconst (v := 4) hx hb dL_law_631 (by decide) ?_
  refine lv_iadd hx hb dL_law_632 ?_
  refine lv_topi (fun z_4 ez_4 => ?_)
  obtain rfl : z_4 = (4 : Int32) := ez_4.trans (by decide)
  refine va_sld hx hb hX hbl hbA hS (by unfold vp_in; decide) dL_law_633 ?_
  have hPc := hP.sub (ws' := [(xh0, .inr (11, [.ref xsl, .ref xwalker_, .ref xrd, .ref xmachine_, .ref xtrial_, .ref xdk])), (xrd, .inr (4, [.ref xlenses_, .int 0, .int 0, .int 0, .int (-1), .int (-1), .ref xtp, .ref xnames_, .ref xquoted_, .ref xlinks_, .ref xwalker2_, .int 0, .int 0, .int 0]))]) [0, 1] rfl
  have hDc := hD.sub (ws' := [(xh0, .inr (11, [.ref xsl, .ref xwalker_, .ref xrd, .ref xmachine_, .ref xtrial_, .ref xdk])), (xrd, .inr (4, [.ref xlenses_, .int 0, .int 0, .int 0, .int (-1), .int (-1), .ref xtp, .ref xnames_, .ref xquoted_, .ref xlinks_, .ref xwalker2_, .int 0, .int 0, .int 0]))]) [0, 1] (by decide) rfl
  have hKc := hK.sub (tys' := []) [] rfl
  have hFc := va_free (wc := [(xh0, .inr (11, [.ref xsl, .ref xwalker_, .ref xrd, .ref xmachine_, .ref xtrial_, .ref xdk])), (xrd, .inr (4, [.ref xlenses_, .int 0, .int 0, .int 0, .int (-1), .int (-1), .ref xtp, .ref xnames_, .ref xquoted_, .ref xlinks_, .ref xwalker2_, .int 0, .int 0, .int 0]))]) hD hS hA [0, 1] rfl
  refine va_calli (va_runV (As := [.int (xs (1 : Int32).toNatClampNeg), .int (xs (2 : Int32).toNatClampNeg), .int (xs (3 : Int32).toNatClampNeg), .int (xs (4 : Int32).toNatClampNeg)]) (rest := []) ⟨hx, hb, hml, hown, hts⟩ (k_compare l dC dI H.size xh0 (xs (1 : Int32).toNatClampNeg) (xs (2 : Int32).toNatClampNeg) (xs (3 : Int32).toNatClampNeg) (xs (4 : Int32).toNatClampNeg) xsl xwalker_ xrd xmachine_ xtrial_ xdk xlenses_ xtp xnames_ xquoted_ xlinks_ xwalker2_) (cwV 4 hts gcase_12_69 rfl rfl rfl (by decide +kernel) ⟨Nat.le_of_ble_eq_true rfl, Nat.le_of_ble_eq_true rfl⟩) ⟨fun a U g mk q => by obtain ⟨q0, q1, qP, qK, qD⟩ := q; exact ⟨q0, q1, qP, va_K.moved (u := U) (U := U.calling g mk a) (Vm.Alike.refl U.vm) qK, qD⟩, va_recv hK hP (ci := 11) (q0 := 0) rfl rfl, fun U hU hW => ⟨rfl, by rw [hU], by rw [hU]; exact hPc, va_K.moved hW.alike hKc, hDc.weaken (fun _ _ _ _ => trivial)⟩⟩ rfl rfl hl.1 rfl (lv_room (Nat.le_of_ble_eq_true rfl)) dL_law_634 ⟨Nat.le_of_ble_eq_true rfl, Nat.le_of_ble_eq_true rfl⟩) hS (fun q _ h => hFc q h) hFc (fun r_6 u t H1 locs ht hvm hw hB hz1 hk1 hS => ?_)
  obtain ⟨hP1, hK1, hD1⟩ := hB
  rw [ht] at hP1
  try dsimp only at hw
  obtain ⟨hP, hD⟩ := va_join (wr := [(mh0, .inr (12, [.int 0, .ref ma1, .ref ma2, .ref ma3, .ref ma4, .ref ma5, .int 0, .ref ma7, .ref ma8, .int 0, .ref ma10, .ref ma11, .ref ma12, .ref ma13, .int 0, .ref ma15, .ref ma16, .ref ma17, .ref ma18, .ref ma19, .ref ma20, .ref ma21, .ref ma22, .int 0, .ref ma24, .int 0, .ref ma26, .ref ma27, .int 0, .ref ma29, .ref ma30, .ref ma31, .ref ma32, .ref ma33, .int 0, .ref ma35, .ref ma36, .int 0, .ref ma38, .int 0, .int 0, .int 0, .int 0, .int 0, .long 0, .int 0, .int 0, .int (-1), .int (-1), .int 0, .ref ma50, .ref ma51, .int 0, .int 0, .ref ma54, .ref ma55, .int (-1), .ref ma57, .ref ma58, .ref ma59, .ref ma60, .int 0, .int 0, .int 0, .ref ma64]))]) (w1 := []) hP hD [0, 1] [2] rfl rfl (by decide) (by decide) hk1 hFc hP1 hD1
  clear hk1 hz1 hPc hDc hFc hP1 hD1 hK1 hKc
  generalize H1 = H at hP hS ⊢
  have hP : va_P (dC, dI) cls [(mh0, .inr (12, [.int 0, .ref ma1, .ref ma2, .ref ma3, .ref ma4, .ref ma5, .int 0, .ref ma7, .ref ma8, .int 0, .ref ma10, .ref ma11, .ref ma12, .ref ma13, .int 0, .ref ma15, .ref ma16, .ref ma17, .ref ma18, .ref ma19, .ref ma20, .ref ma21, .ref ma22, .int 0, .ref ma24, .int 0, .ref ma26, .ref ma27, .int 0, .ref ma29, .ref ma30, .ref ma31, .ref ma32, .ref ma33, .int 0, .ref ma35, .ref ma36, .int 0, .ref ma38, .int 0, .int 0, .int 0, .int 0, .int 0, .long 0, .int 0, .int 0, .int (-1), .int (-1), .int 0, .ref ma50, .ref ma51, .int 0, .int 0, .ref ma54, .ref ma55, .int (-1), .ref ma57, .ref ma58, .ref ma59, .ref ma60, .int 0, .int 0, .int 0, .ref ma64]))] H := hP
  have hD : va_D (fun q : Nat => s.heap.size ≤ q) [(mh0, .inr (12, [.int 0, .ref ma1, .ref ma2, .ref ma3, .ref ma4, .ref ma5, .int 0, .ref ma7, .ref ma8, .int 0, .ref ma10, .ref ma11, .ref ma12, .ref ma13, .int 0, .ref ma15, .ref ma16, .ref ma17, .ref ma18, .ref ma19, .ref ma20, .ref ma21, .ref ma22, .int 0, .ref ma24, .int 0, .ref ma26, .ref ma27, .int 0, .ref ma29, .ref ma30, .ref ma31, .ref ma32, .ref ma33, .int 0, .ref ma35, .ref ma36, .int 0, .ref ma38, .int 0, .int 0, .int 0, .int 0, .int 0, .long 0, .int 0, .int 0, .int (-1), .int (-1), .int 0, .ref ma50, .ref ma51, .int 0, .int 0, .ref ma54, .ref ma55, .int (-1), .ref ma57, .ref ma58, .ref ma59, .ref ma60, .int 0, .int 0, .int 0, .ref ma64]))] := hD
  obtain rfl := hw
  refine lv_aload_n hx hb dL_law_637 rfl (lv_at hl 1 rfl) ?_
  refine lv_aload_n hx hb dL_law_638 rfl (lv_at hl 3 rfl) ?_
  refine lv_iload_n hx hb dL_law_639 rfl (lv_at hl 0 rfl) ?_
  refine lv_iconst (v := 1) hx hb dL_law_640 (by decide) ?_
  refine lv_iadd hx hb dL_law_641 ?_
  refine lv_topi (fun z_7 ez_7 => ?_)
  obtain rfl : z_7 = (1 : Int32) := ez_7.trans (by decide)
  refine va_sld hx hb hX hbl hbA hS (by unfold vp_in; decide) dL_law_642 ?_
  refine lv_aload_n hx hb dL_law_643 rfl (lv_at hl 3 rfl) ?_
  refine lv_iload_n hx hb dL_law_644 rfl (lv_at hl 0 rfl) ?_
  refine lv_iconst (v := 2) hx hb dL_law_645 (by decide) ?_
  refine lv_iadd hx hb dL_law_646 ?_
  refine lv_topi (fun z_8 ez_8 => ?_)
  obtain rfl : z_8 = (2 : Int32) := ez_8.trans (by decide)
  refine va_sld hx hb hX hbl hbA hS (by unfold vp_in; decide) dL_law_647 ?_
  refine lv_aload_n hx hb dL_law_648 rfl (lv_at hl 3 rfl) ?_
  refine lv_iload_n hx hb dL_law_649 rfl (lv_at hl 0 rfl) ?_
  refine lv_iconst (v := 3) hx hb dL_law_650 (by decide) ?_
  refine lv_iadd hx hb dL_law_651 ?_
  refine lv_topi (fun z_9 ez_9 => ?_)
  obtain rfl : z_9 = (3 : Int32) := ez_9.trans (by decide)
  refine va_sld hx hb hX hbl hbA hS (by unfold vp_in; decide) dL_law_652 ?_
  refine lv_aload_n hx hb dL_law_653 rfl (lv_at hl 3 rfl) ?_
  refine lv_iload_n hx hb dL_law_654 rfl (lv_at hl 0 rfl) ?_
  refine lv_iconst (v := 4) hx hb dL_law_655 (by decide) ?_
  refine lv_iadd hx hb dL_law_656 ?_
  refine lv_topi (fun z_10 ez_10 => ?_)
  obtain rfl : z_10 = (4 : Int32) := ez_10.trans (by decide)
  refine va_sld hx hb hX hbl hbA hS (by unfold vp_in; decide) dL_law_657 ?_
  have hPc := hP.sub (ws' := [(mh0, .inr (12, [.int 0, .ref ma1, .ref ma2, .ref ma3, .ref ma4, .ref ma5, .int 0, .ref ma7, .ref ma8, .int 0, .ref ma10, .ref ma11, .ref ma12, .ref ma13, .int 0, .ref ma15, .ref ma16, .ref ma17, .ref ma18, .ref ma19, .ref ma20, .ref ma21, .ref ma22, .int 0, .ref ma24, .int 0, .ref ma26, .ref ma27, .int 0, .ref ma29, .ref ma30, .ref ma31, .ref ma32, .ref ma33, .int 0, .ref ma35, .ref ma36, .int 0, .ref ma38, .int 0, .int 0, .int 0, .int 0, .int 0, .long 0, .int 0, .int 0, .int (-1), .int (-1), .int 0, .ref ma50, .ref ma51, .int 0, .int 0, .ref ma54, .ref ma55, .int (-1), .ref ma57, .ref ma58, .ref ma59, .ref ma60, .int 0, .int 0, .int 0, .ref ma64]))]) [0] rfl
  have hDc := hD.sub (ws' := [(mh0, .inr (12, [.int 0, .ref ma1, .ref ma2, .ref ma3, .ref ma4, .ref ma5, .int 0, .ref ma7, .ref ma8, .int 0, .ref ma10, .ref ma11, .ref ma12, .ref ma13, .int 0, .ref ma15, .ref ma16, .ref ma17, .ref ma18, .ref ma19, .ref ma20, .ref ma21, .ref ma22, .int 0, .ref ma24, .int 0, .ref ma26, .ref ma27, .int 0, .ref ma29, .ref ma30, .ref ma31, .ref ma32, .ref ma33, .int 0, .ref ma35, .ref ma36, .int 0, .ref ma38, .int 0, .int 0, .int 0, .int 0, .int 0, .long 0, .int 0, .int 0, .int (-1), .int (-1), .int 0, .ref ma50, .ref ma51, .int 0, .int 0, .ref ma54, .ref ma55, .int (-1), .ref ma57, .ref ma58, .ref ma59, .ref ma60, .int 0, .int 0, .int 0, .ref ma64]))]) [0] (by decide) rfl
  have hKc := hK.sub (tys' := []) [] rfl
  have hFc := va_free (wc := [(mh0, .inr (12, [.int 0, .ref ma1, .ref ma2, .ref ma3, .ref ma4, .ref ma5, .int 0, .ref ma7, .ref ma8, .int 0, .ref ma10, .ref ma11, .ref ma12, .ref ma13, .int 0, .ref ma15, .ref ma16, .ref ma17, .ref ma18, .ref ma19, .ref ma20, .ref ma21, .ref ma22, .int 0, .ref ma24, .int 0, .ref ma26, .ref ma27, .int 0, .ref ma29, .ref ma30, .ref ma31, .ref ma32, .ref ma33, .int 0, .ref ma35, .ref ma36, .int 0, .ref ma38, .int 0, .int 0, .int 0, .int 0, .int 0, .long 0, .int 0, .int 0, .int (-1), .int (-1), .int 0, .ref ma50, .ref ma51, .int 0, .int 0, .ref ma54, .ref ma55, .int (-1), .ref ma57, .ref ma58, .ref ma59, .ref ma60, .int 0, .int 0, .int 0, .ref ma64]))]) hD hS hA [0] rfl
  refine va_calli (va_runV (As := [.int (xs (1 : Int32).toNatClampNeg), .int (xs (2 : Int32).toNatClampNeg), .int (xs (3 : Int32).toNatClampNeg), .int (xs (4 : Int32).toNatClampNeg)]) (rest := [.int (-1)]) ⟨hx, hb, hml, hown, hts⟩ (m_compare l dC dI H.size mh0 (xs (1 : Int32).toNatClampNeg) (xs (2 : Int32).toNatClampNeg) (xs (3 : Int32).toNatClampNeg) (xs (4 : Int32).toNatClampNeg) ma1 ma2 ma3 ma4 ma5 ma7 ma8 ma10 ma11 ma12 ma13 ma15 ma16 ma17 ma18 ma19 ma20 ma21 ma22 ma24 ma26 ma27 ma29 ma30 ma31 ma32 ma33 ma35 ma36 ma38 ma50 ma51 ma54 ma55 ma57 ma58 ma59 ma60 ma64) (cwV 4 hts gcase_12_72 rfl rfl rfl (by decide +kernel) ⟨Nat.le_of_ble_eq_true rfl, Nat.le_of_ble_eq_true rfl⟩) ⟨fun a U g mk q => by obtain ⟨q0, q1, qP, qK, qD⟩ := q; exact ⟨q0, q1, qP, va_K.moved (u := U) (U := U.calling g mk a) (Vm.Alike.refl U.vm) qK, qD⟩, va_recv hK hP (ci := 12) (q0 := 0) rfl rfl, fun U hU hW => ⟨rfl, by rw [hU], by rw [hU]; exact hPc, va_K.moved hW.alike hKc, hDc.weaken (fun _ _ _ _ => trivial)⟩⟩ rfl rfl hl.1 rfl (lv_room (Nat.le_of_ble_eq_true rfl)) dL_law_658 ⟨Nat.le_of_ble_eq_true rfl, Nat.le_of_ble_eq_true rfl⟩) hS (fun q _ h => hFc q h) hFc (fun r_12 u t H1 locs ht hvm hw hB hz1 hk1 hS => ?_)
  obtain ⟨hP1, hK1, hD1⟩ := hB
  rw [ht] at hP1
  try dsimp only at hw
  obtain ⟨hP, hD⟩ := va_join (wr := []) (w1 := []) hP hD [0] [] rfl rfl (by decide) (by decide) hk1 hFc hP1 hD1
  clear hk1 hz1 hPc hDc hFc hP1 hD1 hK1 hKc
  generalize H1 = H at hP hS ⊢
  have hP : va_P (dC, dI) cls [] H := hP
  have hD : va_D (fun q : Nat => s.heap.size ≤ q) [] := hD
  obtain rfl := hw
  refine lv_icmp_eq (tgt := 1218) hx hb dL_law_661 (by decide) (fun c_13 => ?_) (fun c_13 => ?_)
  rotate_left
  · exact (by revert c_13; decide : False).elim
  exact law_tail l C0 hS (Nat.le_of_ble_eq_true rfl) (Nat.le_of_ble_eq_true rfl) (lv_sub hl [3, 0] rfl)
theorem gcase_13_73g : GoodIn lwS wk_set := goodIn_r _ [431, 361, 362, 363, 202, 364, 365, 366, 367, 368, 190, 369, 57, 58, 59, 60, 61, 62, 63, 64, 65, 66, 67, 68, 69, 70, 118, 119, 120, 121, 122, 123] (by decide +kernel) (by decide +kernel)
theorem gcase_13_73 : GoodIn lwS (wsV RL 73 RX11 yX11_set wk_set) := goodIn_app (goodIn_r _ [432, 433, 434, 202] (by decide +kernel) (by decide +kernel)) gcase_13_73g
theorem gcase_13_76g : GoodIn lwS wm_set := goodIn_r _ [435, 204, 374, 375, 376, 210, 377, 292, 216, 217, 218, 219, 124, 125, 126, 127, 128, 129, 130, 131, 132, 133, 134, 135, 136, 137, 138, 139, 140, 141, 142, 143, 144, 145, 146, 147, 148, 149, 150, 151, 152, 153, 154, 155, 156, 157, 158, 159, 160, 161, 162, 163, 164, 165, 166, 167, 168, 169, 170, 171, 172, 173, 174, 175, 176, 177, 178, 179, 180, 181, 182, 183, 184, 185, 186, 187, 188] (by decide +kernel) (by decide +kernel)
theorem gcase_13_76 : GoodIn lwS (wsV RL 76 RX12 yX12_set wm_set) := goodIn_app (goodIn_r _ [436, 437, 438, 210] (by decide +kernel) (by decide +kernel)) gcase_13_76g
set_option maxHeartbeats 4000000 in
set_option maxRecDepth 100000 in
theorem case_13 {p : Program} {e : Env} {s : State} {m : MethodId} {below : List Frame} {meth : Method} {c : Code} (l : Launch) {b : Nat} {xs : Nat → Int32} (C0 : lw_At p s m meth c b 6 xs) (dC : Nat → ClassId) (dI : Nat → Nat → Nat) (mh0 : Nat) (xh0 : Nat) (xsl : Nat) (xwalker_ : Nat) (xrd : Nat) (xmachine_ : Nat) (xtrial_ : Nat) (xdk : Nat) (xlenses_ : Nat) (xtp : Nat) (xnames_ : Nat) (xquoted_ : Nat) (xlinks_ : Nat) (xwalker2_ : Nat) (ma1 : Nat) (ma2 : Nat) (ma3 : Nat) (ma4 : Nat) (ma5 : Nat) (ma7 : Nat) (ma8 : Nat) (ma10 : Nat) (ma11 : Nat) (ma12 : Nat) (ma13 : Nat) (ma15 : Nat) (ma16 : Nat) (ma17 : Nat) (ma18 : Nat) (ma19 : Nat) (ma20 : Nat) (ma21 : Nat) (ma22 : Nat) (ma24 : Nat) (ma26 : Nat) (ma27 : Nat) (ma29 : Nat) (ma30 : Nat) (ma31 : Nat) (ma32 : Nat) (ma33 : Nat) (ma35 : Nat) (ma36 : Nat) (ma38 : Nat) (ma50 : Nat) (ma51 : Nat) (ma54 : Nat) (ma55 : Nat) (ma57 : Nat) (ma58 : Nat) (ma59 : Nat) (ma60 : Nat) (ma64 : Nat) {H : Heap} {locs : List Loc} {ls : Array Slot} (hK : va_K (dC, dI) cls [] s) (hP : va_P (dC, dI) cls [(xh0, .inr (11, [.ref xsl, .ref xwalker_, .ref xrd, .ref xmachine_, .ref xtrial_, .ref xdk])), (xrd, .inr (4, [.ref xlenses_, .int 0, .int 0, .int 0, .int (-1), .int (-1), .ref xtp, .ref xnames_, .ref xquoted_, .ref xlinks_, .ref xwalker2_, .int 0, .int 0, .int 0])), (mh0, .inr (12, [.int 0, .ref ma1, .ref ma2, .ref ma3, .ref ma4, .ref ma5, .int 0, .ref ma7, .ref ma8, .int 0, .ref ma10, .ref ma11, .ref ma12, .ref ma13, .int 0, .ref ma15, .ref ma16, .ref ma17, .ref ma18, .ref ma19, .ref ma20, .ref ma21, .ref ma22, .int 0, .ref ma24, .int 0, .ref ma26, .ref ma27, .int 0, .ref ma29, .ref ma30, .ref ma31, .ref ma32, .ref ma33, .int 0, .ref ma35, .ref ma36, .int 0, .ref ma38, .int 0, .int 0, .int 0, .int 0, .int 0, .long 0, .int 0, .int 0, .int (-1), .int (-1), .int 0, .ref ma50, .ref ma51, .int 0, .int 0, .ref ma54, .ref ma55, .int (-1), .ref ma57, .ref ma58, .ref ma59, .ref ma60, .int 0, .int 0, .int 0, .ref ma64]))] H) (hD : va_D (fun q : Nat => s.heap.size ≤ q) [(xh0, .inr (11, [.ref xsl, .ref xwalker_, .ref xrd, .ref xmachine_, .ref xtrial_, .ref xdk])), (xrd, .inr (4, [.ref xlenses_, .int 0, .int 0, .int 0, .int (-1), .int (-1), .ref xtp, .ref xnames_, .ref xquoted_, .ref xlinks_, .ref xwalker2_, .int 0, .int 0, .int 0])), (mh0, .inr (12, [.int 0, .ref ma1, .ref ma2, .ref ma3, .ref ma4, .ref ma5, .int 0, .ref ma7, .ref ma8, .int 0, .ref ma10, .ref ma11, .ref ma12, .ref ma13, .int 0, .ref ma15, .ref ma16, .ref ma17, .ref ma18, .ref ma19, .ref ma20, .ref ma21, .ref ma22, .int 0, .ref ma24, .int 0, .ref ma26, .ref ma27, .int 0, .ref ma29, .ref ma30, .ref ma31, .ref ma32, .ref ma33, .int 0, .ref ma35, .ref ma36, .int 0, .ref ma38, .int 0, .int 0, .int 0, .int 0, .int 0, .long 0, .int 0, .int 0, .int (-1), .int (-1), .int 0, .ref ma50, .ref ma51, .int 0, .int 0, .ref ma54, .ref ma55, .int (-1), .ref ma57, .ref ma58, .ref ma59, .ref ma60, .int 0, .int 0, .int 0, .ref ma64]))]) (hS : va_S (fun q : Nat => s.heap.size ≤ q) s.heap H locs) (hl : lv_has ls 4 [(3, .int 0), (2, .ref mh0), (1, .ref xh0), (0, .ref b)]) : W p l e room_1 s m #[Value.ref b] below meth c H locs 185 1243858 (lw_Z below #[Value.ref b] s) (F0 m 666 ls []) := by
  obtain ⟨hx, hb, hr, hml, hown0, hts0, hX, hbl, hlocks, hgv⟩ := id C0
  have hown : s.vm.findClass RL = some m.cls := hown0
  have hts : ∀ w ∈ lwS, w.before #[Value.ref b] s = true := fun w h => hts0 w (wsL_law_in w h)
  have hA : ∀ q : Nat, s.heap.size ≤ q → (fun q : Nat => s.heap.size ≤ q) q := fun _ h => h
  have hbA : ¬ (fun q : Nat => s.heap.size ≤ q) b := Nat.not_le.mpr hbl
  refine lv_aload_n hx hb dL_law_666 rfl (lv_at hl 2 rfl) ?_
  refine lv_aload_n hx hb dL_law_667 rfl (lv_at hl 3 rfl) ?_
  refine lv_iload_n hx hb dL_law_668 rfl (lv_at hl 0 rfl) ?_
  refine lv_iconst (v := 1) hx hb dL_law_669 (by decide) ?_
  refine lv_iadd hx hb dL_law_670 ?_
  refine lv_topi (fun z_1 ez_1 => ?_)
  obtain rfl : z_1 = (1 : Int32) := ez_1.trans (by decide)
  refine va_sld hx hb hX hbl hbA hS (by unfold vp_in; decide) dL_law_671 ?_
  refine lv_aload_n hx hb dL_law_672 rfl (lv_at hl 3 rfl) ?_
  refine lv_iload_n hx hb dL_law_673 rfl (lv_at hl 0 rfl) ?_
  refine lv_iconst (v := 2) hx hb dL_law_674 (by decide) ?_
  refine lv_iadd hx hb dL_law_675 ?_
  refine lv_topi (fun z_2 ez_2 => ?_)
  obtain rfl : z_2 = (2 : Int32) := ez_2.trans (by decide)
  refine va_sld hx hb hX hbl hbA hS (by unfold vp_in; decide) dL_law_676 ?_
  refine lv_aload_n hx hb dL_law_677 rfl (lv_at hl 3 rfl) ?_
  refine lv_iload_n hx hb dL_law_678 rfl (lv_at hl 0 rfl) ?_
  refine lv_iconst (v := 3) hx hb dL_law_679 (by decide) ?_
  refine lv_iadd hx hb dL_law_680 ?_
  refine lv_topi (fun z_3 ez_3 => ?_)
  obtain rfl : z_3 = (3 : Int32) := ez_3.trans (by decide)
  refine va_sld hx hb hX hbl hbA hS (by unfold vp_in; decide) dL_law_681 ?_
  have hPc := hP.sub (ws' := [(xh0, .inr (11, [.ref xsl, .ref xwalker_, .ref xrd, .ref xmachine_, .ref xtrial_, .ref xdk])), (xrd, .inr (4, [.ref xlenses_, .int 0, .int 0, .int 0, .int (-1), .int (-1), .ref xtp, .ref xnames_, .ref xquoted_, .ref xlinks_, .ref xwalker2_, .int 0, .int 0, .int 0]))]) [0, 1] rfl
  have hDc := hD.sub (ws' := [(xh0, .inr (11, [.ref xsl, .ref xwalker_, .ref xrd, .ref xmachine_, .ref xtrial_, .ref xdk])), (xrd, .inr (4, [.ref xlenses_, .int 0, .int 0, .int 0, .int (-1), .int (-1), .ref xtp, .ref xnames_, .ref xquoted_, .ref xlinks_, .ref xwalker2_, .int 0, .int 0, .int 0]))]) [0, 1] (by decide) rfl
  have hKc := hK.sub (tys' := []) [] rfl
  have hFc := va_free (wc := [(xh0, .inr (11, [.ref xsl, .ref xwalker_, .ref xrd, .ref xmachine_, .ref xtrial_, .ref xdk])), (xrd, .inr (4, [.ref xlenses_, .int 0, .int 0, .int 0, .int (-1), .int (-1), .ref xtp, .ref xnames_, .ref xquoted_, .ref xlinks_, .ref xwalker2_, .int 0, .int 0, .int 0]))]) hD hS hA [0, 1] rfl
  refine va_calli (va_runV (As := [.int (xs (1 : Int32).toNatClampNeg), .int (xs (2 : Int32).toNatClampNeg), .int (xs (3 : Int32).toNatClampNeg)]) (rest := []) ⟨hx, hb, hml, hown, hts⟩ (k_set l dC dI H.size xh0 (xs (1 : Int32).toNatClampNeg) (xs (2 : Int32).toNatClampNeg) (xs (3 : Int32).toNatClampNeg) xsl xwalker_ xrd xmachine_ xtrial_ xdk xlenses_ xtp xnames_ xquoted_ xlinks_ xwalker2_) (cwV 3 hts gcase_13_73 rfl rfl rfl (by decide +kernel) ⟨Nat.le_of_ble_eq_true rfl, Nat.le_of_ble_eq_true rfl⟩) ⟨fun a U g mk q => by obtain ⟨q0, q1, qP, qK, qD⟩ := q; exact ⟨q0, q1, qP, va_K.moved (u := U) (U := U.calling g mk a) (Vm.Alike.refl U.vm) qK, qD⟩, va_recv hK hP (ci := 11) (q0 := 0) rfl rfl, fun U hU hW => ⟨rfl, by rw [hU], by rw [hU]; exact hPc, va_K.moved hW.alike hKc, hDc.weaken (fun _ _ _ _ => trivial)⟩⟩ rfl rfl hl.1 rfl (lv_room (Nat.le_of_ble_eq_true rfl)) dL_law_682 ⟨Nat.le_of_ble_eq_true rfl, Nat.le_of_ble_eq_true rfl⟩) hS (fun q _ h => hFc q h) hFc (fun r_5 u t H1 locs ht hvm hw hB hz1 hk1 hS => ?_)
  obtain ⟨hP1, hK1, hD1⟩ := hB
  rw [ht] at hP1
  try dsimp only at hw
  obtain ⟨hP, hD⟩ := va_join (wr := [(mh0, .inr (12, [.int 0, .ref ma1, .ref ma2, .ref ma3, .ref ma4, .ref ma5, .int 0, .ref ma7, .ref ma8, .int 0, .ref ma10, .ref ma11, .ref ma12, .ref ma13, .int 0, .ref ma15, .ref ma16, .ref ma17, .ref ma18, .ref ma19, .ref ma20, .ref ma21, .ref ma22, .int 0, .ref ma24, .int 0, .ref ma26, .ref ma27, .int 0, .ref ma29, .ref ma30, .ref ma31, .ref ma32, .ref ma33, .int 0, .ref ma35, .ref ma36, .int 0, .ref ma38, .int 0, .int 0, .int 0, .int 0, .int 0, .long 0, .int 0, .int 0, .int (-1), .int (-1), .int 0, .ref ma50, .ref ma51, .int 0, .int 0, .ref ma54, .ref ma55, .int (-1), .ref ma57, .ref ma58, .ref ma59, .ref ma60, .int 0, .int 0, .int 0, .ref ma64]))]) (w1 := []) hP hD [0, 1] [2] rfl rfl (by decide) (by decide) hk1 hFc hP1 hD1
  clear hk1 hz1 hPc hDc hFc hP1 hD1 hK1 hKc
  generalize H1 = H at hP hS ⊢
  have hP : va_P (dC, dI) cls [(mh0, .inr (12, [.int 0, .ref ma1, .ref ma2, .ref ma3, .ref ma4, .ref ma5, .int 0, .ref ma7, .ref ma8, .int 0, .ref ma10, .ref ma11, .ref ma12, .ref ma13, .int 0, .ref ma15, .ref ma16, .ref ma17, .ref ma18, .ref ma19, .ref ma20, .ref ma21, .ref ma22, .int 0, .ref ma24, .int 0, .ref ma26, .ref ma27, .int 0, .ref ma29, .ref ma30, .ref ma31, .ref ma32, .ref ma33, .int 0, .ref ma35, .ref ma36, .int 0, .ref ma38, .int 0, .int 0, .int 0, .int 0, .int 0, .long 0, .int 0, .int 0, .int (-1), .int (-1), .int 0, .ref ma50, .ref ma51, .int 0, .int 0, .ref ma54, .ref ma55, .int (-1), .ref ma57, .ref ma58, .ref ma59, .ref ma60, .int 0, .int 0, .int 0, .ref ma64]))] H := hP
  have hD : va_D (fun q : Nat => s.heap.size ≤ q) [(mh0, .inr (12, [.int 0, .ref ma1, .ref ma2, .ref ma3, .ref ma4, .ref ma5, .int 0, .ref ma7, .ref ma8, .int 0, .ref ma10, .ref ma11, .ref ma12, .ref ma13, .int 0, .ref ma15, .ref ma16, .ref ma17, .ref ma18, .ref ma19, .ref ma20, .ref ma21, .ref ma22, .int 0, .ref ma24, .int 0, .ref ma26, .ref ma27, .int 0, .ref ma29, .ref ma30, .ref ma31, .ref ma32, .ref ma33, .int 0, .ref ma35, .ref ma36, .int 0, .ref ma38, .int 0, .int 0, .int 0, .int 0, .int 0, .long 0, .int 0, .int 0, .int (-1), .int (-1), .int 0, .ref ma50, .ref ma51, .int 0, .int 0, .ref ma54, .ref ma55, .int (-1), .ref ma57, .ref ma58, .ref ma59, .ref ma60, .int 0, .int 0, .int 0, .ref ma64]))] := hD
  obtain rfl := hw
  refine lv_aload_n hx hb dL_law_685 rfl (lv_at hl 1 rfl) ?_
  refine lv_aload_n hx hb dL_law_686 rfl (lv_at hl 3 rfl) ?_
  refine lv_iload_n hx hb dL_law_687 rfl (lv_at hl 0 rfl) ?_
  refine lv_iconst (v := 1) hx hb dL_law_688 (by decide) ?_
  refine lv_iadd hx hb dL_law_689 ?_
  refine lv_topi (fun z_6 ez_6 => ?_)
  obtain rfl : z_6 = (1 : Int32) := ez_6.trans (by decide)
  refine va_sld hx hb hX hbl hbA hS (by unfold vp_in; decide) dL_law_690 ?_
  refine lv_aload_n hx hb dL_law_691 rfl (lv_at hl 3 rfl) ?_
  refine lv_iload_n hx hb dL_law_692 rfl (lv_at hl 0 rfl) ?_
  refine lv_iconst (v := 2) hx hb dL_law_693 (by decide) ?_
  refine lv_iadd hx hb dL_law_694 ?_
  refine lv_topi (fun z_7 ez_7 => ?_)
  obtain rfl : z_7 = (2 : Int32) := ez_7.trans (by decide)
  refine va_sld hx hb hX hbl hbA hS (by unfold vp_in; decide) dL_law_695 ?_
  refine lv_aload_n hx hb dL_law_696 rfl (lv_at hl 3 rfl) ?_
  refine lv_iload_n hx hb dL_law_697 rfl (lv_at hl 0 rfl) ?_
  refine lv_iconst (v := 3) hx hb dL_law_698 (by decide) ?_
  refine lv_iadd hx hb dL_law_699 ?_
  refine lv_topi (fun z_8 ez_8 => ?_)
  obtain rfl : z_8 = (3 : Int32) := ez_8.trans (by decide)
  refine va_sld hx hb hX hbl hbA hS (by unfold vp_in; decide) dL_law_700 ?_
  have hPc := hP.sub (ws' := [(mh0, .inr (12, [.int 0, .ref ma1, .ref ma2, .ref ma3, .ref ma4, .ref ma5, .int 0, .ref ma7, .ref ma8, .int 0, .ref ma10, .ref ma11, .ref ma12, .ref ma13, .int 0, .ref ma15, .ref ma16, .ref ma17, .ref ma18, .ref ma19, .ref ma20, .ref ma21, .ref ma22, .int 0, .ref ma24, .int 0, .ref ma26, .ref ma27, .int 0, .ref ma29, .ref ma30, .ref ma31, .ref ma32, .ref ma33, .int 0, .ref ma35, .ref ma36, .int 0, .ref ma38, .int 0, .int 0, .int 0, .int 0, .int 0, .long 0, .int 0, .int 0, .int (-1), .int (-1), .int 0, .ref ma50, .ref ma51, .int 0, .int 0, .ref ma54, .ref ma55, .int (-1), .ref ma57, .ref ma58, .ref ma59, .ref ma60, .int 0, .int 0, .int 0, .ref ma64]))]) [0] rfl
  have hDc := hD.sub (ws' := [(mh0, .inr (12, [.int 0, .ref ma1, .ref ma2, .ref ma3, .ref ma4, .ref ma5, .int 0, .ref ma7, .ref ma8, .int 0, .ref ma10, .ref ma11, .ref ma12, .ref ma13, .int 0, .ref ma15, .ref ma16, .ref ma17, .ref ma18, .ref ma19, .ref ma20, .ref ma21, .ref ma22, .int 0, .ref ma24, .int 0, .ref ma26, .ref ma27, .int 0, .ref ma29, .ref ma30, .ref ma31, .ref ma32, .ref ma33, .int 0, .ref ma35, .ref ma36, .int 0, .ref ma38, .int 0, .int 0, .int 0, .int 0, .int 0, .long 0, .int 0, .int 0, .int (-1), .int (-1), .int 0, .ref ma50, .ref ma51, .int 0, .int 0, .ref ma54, .ref ma55, .int (-1), .ref ma57, .ref ma58, .ref ma59, .ref ma60, .int 0, .int 0, .int 0, .ref ma64]))]) [0] (by decide) rfl
  have hKc := hK.sub (tys' := []) [] rfl
  have hFc := va_free (wc := [(mh0, .inr (12, [.int 0, .ref ma1, .ref ma2, .ref ma3, .ref ma4, .ref ma5, .int 0, .ref ma7, .ref ma8, .int 0, .ref ma10, .ref ma11, .ref ma12, .ref ma13, .int 0, .ref ma15, .ref ma16, .ref ma17, .ref ma18, .ref ma19, .ref ma20, .ref ma21, .ref ma22, .int 0, .ref ma24, .int 0, .ref ma26, .ref ma27, .int 0, .ref ma29, .ref ma30, .ref ma31, .ref ma32, .ref ma33, .int 0, .ref ma35, .ref ma36, .int 0, .ref ma38, .int 0, .int 0, .int 0, .int 0, .int 0, .long 0, .int 0, .int 0, .int (-1), .int (-1), .int 0, .ref ma50, .ref ma51, .int 0, .int 0, .ref ma54, .ref ma55, .int (-1), .ref ma57, .ref ma58, .ref ma59, .ref ma60, .int 0, .int 0, .int 0, .ref ma64]))]) hD hS hA [0] rfl
  refine va_calli (va_runV (As := [.int (xs (1 : Int32).toNatClampNeg), .int (xs (2 : Int32).toNatClampNeg), .int (xs (3 : Int32).toNatClampNeg)]) (rest := [.int (-1)]) ⟨hx, hb, hml, hown, hts⟩ (m_set l dC dI H.size mh0 (xs (1 : Int32).toNatClampNeg) (xs (2 : Int32).toNatClampNeg) (xs (3 : Int32).toNatClampNeg) ma1 ma2 ma3 ma4 ma5 ma7 ma8 ma10 ma11 ma12 ma13 ma15 ma16 ma17 ma18 ma19 ma20 ma21 ma22 ma24 ma26 ma27 ma29 ma30 ma31 ma32 ma33 ma35 ma36 ma38 ma50 ma51 ma54 ma55 ma57 ma58 ma59 ma60 ma64) (cwV 3 hts gcase_13_76 rfl rfl rfl (by decide +kernel) ⟨Nat.le_of_ble_eq_true rfl, Nat.le_of_ble_eq_true rfl⟩) ⟨fun a U g mk q => by obtain ⟨q0, q1, qP, qK, qD⟩ := q; exact ⟨q0, q1, qP, va_K.moved (u := U) (U := U.calling g mk a) (Vm.Alike.refl U.vm) qK, qD⟩, va_recv hK hP (ci := 12) (q0 := 0) rfl rfl, fun U hU hW => ⟨rfl, by rw [hU], by rw [hU]; exact hPc, va_K.moved hW.alike hKc, hDc.weaken (fun _ _ _ _ => trivial)⟩⟩ rfl rfl hl.1 rfl (lv_room (Nat.le_of_ble_eq_true rfl)) dL_law_701 ⟨Nat.le_of_ble_eq_true rfl, Nat.le_of_ble_eq_true rfl⟩) hS (fun q _ h => hFc q h) hFc (fun r_10 u t H1 locs ht hvm hw hB hz1 hk1 hS => ?_)
  obtain ⟨hP1, hK1, hD1⟩ := hB
  rw [ht] at hP1
  try dsimp only at hw
  obtain ⟨hP, hD⟩ := va_join (wr := []) (w1 := []) hP hD [0] [] rfl rfl (by decide) (by decide) hk1 hFc hP1 hD1
  clear hk1 hz1 hPc hDc hFc hP1 hD1 hK1 hKc
  generalize H1 = H at hP hS ⊢
  have hP : va_P (dC, dI) cls [] H := hP
  have hD : va_D (fun q : Nat => s.heap.size ≤ q) [] := hD
  obtain rfl := hw
  refine lv_icmp_eq (tgt := 1218) hx hb dL_law_704 (by decide) (fun c_11 => ?_) (fun c_11 => ?_)
  rotate_left
  · exact (by revert c_11; decide : False).elim
  exact law_tail l C0 hS (Nat.le_of_ble_eq_true rfl) (Nat.le_of_ble_eq_true rfl) (lv_sub hl [3, 0] rfl)
theorem gcase_14_77g : GoodIn lwS wk_goesOn := goodIn_r _ [439, 361, 362, 363, 202, 364, 365, 366, 367, 368, 190, 369, 320, 321, 322, 323, 324, 57, 58, 59, 60, 61, 62, 63, 64, 65, 66, 67, 68, 69, 70, 118, 119, 120, 121, 122, 123] (by decide +kernel) (by decide +kernel)
theorem gcase_14_77 : GoodIn lwS (wsV RL 77 RX11 yX11_goesOn wk_goesOn) := goodIn_app (goodIn_r _ [440, 441, 442, 202] (by decide +kernel) (by decide +kernel)) gcase_14_77g
theorem gcase_14_80g : GoodIn lwS wm_goesOn := goodIn_r _ [443, 204, 374, 375, 376, 210, 377, 292, 216, 217, 218, 219, 124, 125, 126, 127, 128, 129, 130, 131, 132, 133, 134, 135, 136, 137, 138, 139, 140, 141, 142, 143, 144, 145, 146, 147, 148, 149, 150, 151, 152, 153, 154, 155, 156, 157, 158, 159, 160, 161, 162, 163, 164, 165, 166, 167, 168, 169, 170, 171, 172, 173, 174, 175, 176, 177, 178, 179, 180, 181, 182, 183, 184, 185, 186, 187, 188] (by decide +kernel) (by decide +kernel)
theorem gcase_14_80 : GoodIn lwS (wsV RL 80 RX12 yX12_goesOn wm_goesOn) := goodIn_app (goodIn_r _ [444, 445, 446, 210] (by decide +kernel) (by decide +kernel)) gcase_14_80g
set_option maxHeartbeats 4000000 in
set_option maxRecDepth 100000 in
theorem case_14 {p : Program} {e : Env} {s : State} {m : MethodId} {below : List Frame} {meth : Method} {c : Code} (l : Launch) {b : Nat} {xs : Nat → Int32} (C0 : lw_At p s m meth c b 6 xs) (dC : Nat → ClassId) (dI : Nat → Nat → Nat) (mh0 : Nat) (xh0 : Nat) (xsl : Nat) (xwalker_ : Nat) (xrd : Nat) (xmachine_ : Nat) (xtrial_ : Nat) (xdk : Nat) (xcT : ClassId) (xfT : Nat → Option Nat) (xlenses_ : Nat) (xtp : Nat) (xnames_ : Nat) (xquoted_ : Nat) (xlinks_ : Nat) (xwalker2_ : Nat) (ma1 : Nat) (ma2 : Nat) (ma3 : Nat) (ma4 : Nat) (ma5 : Nat) (ma7 : Nat) (ma8 : Nat) (ma10 : Nat) (ma11 : Nat) (ma12 : Nat) (ma13 : Nat) (ma15 : Nat) (ma16 : Nat) (ma17 : Nat) (ma18 : Nat) (ma19 : Nat) (ma20 : Nat) (ma21 : Nat) (ma22 : Nat) (ma24 : Nat) (ma26 : Nat) (ma27 : Nat) (ma29 : Nat) (ma30 : Nat) (ma31 : Nat) (ma32 : Nat) (ma33 : Nat) (ma35 : Nat) (ma36 : Nat) (ma38 : Nat) (ma50 : Nat) (ma51 : Nat) (ma54 : Nat) (ma55 : Nat) (ma57 : Nat) (ma58 : Nat) (ma59 : Nat) (ma60 : Nat) (ma64 : Nat) (hf0 : ∀ i : Int32, inS i → ∃ t, xfT i.toNatClampNeg = some t) {H : Heap} {locs : List Loc} {ls : Array Slot} (hK : va_K (dC, dI) cls [(xcT, .object RX6)] s) (hP : va_P (dC, dI) cls [(xh0, .inr (11, [.ref xsl, .ref xwalker_, .ref xrd, .ref xmachine_, .ref xtrial_, .ref xdk])), (xsl, .inl (xcT, 8, .inr (.inr (.inr (.inr xfT))))), (xrd, .inr (4, [.ref xlenses_, .int 0, .int 0, .int 0, .int (-1), .int (-1), .ref xtp, .ref xnames_, .ref xquoted_, .ref xlinks_, .ref xwalker2_, .int 0, .int 0, .int 0])), (mh0, .inr (12, [.int 0, .ref ma1, .ref ma2, .ref ma3, .ref ma4, .ref ma5, .int 0, .ref ma7, .ref ma8, .int 0, .ref ma10, .ref ma11, .ref ma12, .ref ma13, .int 0, .ref ma15, .ref ma16, .ref ma17, .ref ma18, .ref ma19, .ref ma20, .ref ma21, .ref ma22, .int 0, .ref ma24, .int 0, .ref ma26, .ref ma27, .int 0, .ref ma29, .ref ma30, .ref ma31, .ref ma32, .ref ma33, .int 0, .ref ma35, .ref ma36, .int 0, .ref ma38, .int 0, .int 0, .int 0, .int 0, .int 0, .long 0, .int 0, .int 0, .int (-1), .int (-1), .int 0, .ref ma50, .ref ma51, .int 0, .int 0, .ref ma54, .ref ma55, .int (-1), .ref ma57, .ref ma58, .ref ma59, .ref ma60, .int 0, .int 0, .int 0, .ref ma64]))] H) (hD : va_D (fun q : Nat => s.heap.size ≤ q) [(xh0, .inr (11, [.ref xsl, .ref xwalker_, .ref xrd, .ref xmachine_, .ref xtrial_, .ref xdk])), (xsl, .inl (xcT, 8, .inr (.inr (.inr (.inr xfT))))), (xrd, .inr (4, [.ref xlenses_, .int 0, .int 0, .int 0, .int (-1), .int (-1), .ref xtp, .ref xnames_, .ref xquoted_, .ref xlinks_, .ref xwalker2_, .int 0, .int 0, .int 0])), (mh0, .inr (12, [.int 0, .ref ma1, .ref ma2, .ref ma3, .ref ma4, .ref ma5, .int 0, .ref ma7, .ref ma8, .int 0, .ref ma10, .ref ma11, .ref ma12, .ref ma13, .int 0, .ref ma15, .ref ma16, .ref ma17, .ref ma18, .ref ma19, .ref ma20, .ref ma21, .ref ma22, .int 0, .ref ma24, .int 0, .ref ma26, .ref ma27, .int 0, .ref ma29, .ref ma30, .ref ma31, .ref ma32, .ref ma33, .int 0, .ref ma35, .ref ma36, .int 0, .ref ma38, .int 0, .int 0, .int 0, .int 0, .int 0, .long 0, .int 0, .int 0, .int (-1), .int (-1), .int 0, .ref ma50, .ref ma51, .int 0, .int 0, .ref ma54, .ref ma55, .int (-1), .ref ma57, .ref ma58, .ref ma59, .ref ma60, .int 0, .int 0, .int 0, .ref ma64]))]) (hS : va_S (fun q : Nat => s.heap.size ≤ q) s.heap H locs) (hl : lv_has ls 4 [(3, .int 0), (2, .ref mh0), (1, .ref xh0), (0, .ref b)]) : W p l e room_1 s m #[Value.ref b] below meth c H locs 185 1243858 (lw_Z below #[Value.ref b] s) (F0 m 709 ls []) := by
  obtain ⟨hx, hb, hr, hml, hown0, hts0, hX, hbl, hlocks, hgv⟩ := id C0
  have hown : s.vm.findClass RL = some m.cls := hown0
  have hts : ∀ w ∈ lwS, w.before #[Value.ref b] s = true := fun w h => hts0 w (wsL_law_in w h)
  have hA : ∀ q : Nat, s.heap.size ≤ q → (fun q : Nat => s.heap.size ≤ q) q := fun _ h => h
  have hbA : ¬ (fun q : Nat => s.heap.size ≤ q) b := Nat.not_le.mpr hbl
  refine lv_aload_n hx hb dL_law_709 rfl (lv_at hl 2 rfl) ?_
  refine lv_aload_n hx hb dL_law_710 rfl (lv_at hl 3 rfl) ?_
  refine lv_iload_n hx hb dL_law_711 rfl (lv_at hl 0 rfl) ?_
  refine lv_iconst (v := 1) hx hb dL_law_712 (by decide) ?_
  refine lv_iadd hx hb dL_law_713 ?_
  refine lv_topi (fun z_1 ez_1 => ?_)
  obtain rfl : z_1 = (1 : Int32) := ez_1.trans (by decide)
  refine va_sld hx hb hX hbl hbA hS (by unfold vp_in; decide) dL_law_714 ?_
  refine lv_aload_n hx hb dL_law_715 rfl (lv_at hl 3 rfl) ?_
  refine lv_iload_n hx hb dL_law_716 rfl (lv_at hl 0 rfl) ?_
  refine lv_iconst (v := 2) hx hb dL_law_717 (by decide) ?_
  refine lv_iadd hx hb dL_law_718 ?_
  refine lv_topi (fun z_2 ez_2 => ?_)
  obtain rfl : z_2 = (2 : Int32) := ez_2.trans (by decide)
  refine va_sld hx hb hX hbl hbA hS (by unfold vp_in; decide) dL_law_719 ?_
  refine lv_aload_n hx hb dL_law_720 rfl (lv_at hl 3 rfl) ?_
  refine lv_iload_n hx hb dL_law_721 rfl (lv_at hl 0 rfl) ?_
  refine lv_iconst (v := 3) hx hb dL_law_722 (by decide) ?_
  refine lv_iadd hx hb dL_law_723 ?_
  refine lv_topi (fun z_3 ez_3 => ?_)
  obtain rfl : z_3 = (3 : Int32) := ez_3.trans (by decide)
  refine va_sld hx hb hX hbl hbA hS (by unfold vp_in; decide) dL_law_724 ?_
  refine lv_aload_n hx hb dL_law_725 rfl (lv_at hl 3 rfl) ?_
  refine lv_iload_n hx hb dL_law_726 rfl (lv_at hl 0 rfl) ?_
  refine lv_iconst (v := 4) hx hb dL_law_727 (by decide) ?_
  refine lv_iadd hx hb dL_law_728 ?_
  refine lv_topi (fun z_4 ez_4 => ?_)
  obtain rfl : z_4 = (4 : Int32) := ez_4.trans (by decide)
  refine va_sld hx hb hX hbl hbA hS (by unfold vp_in; decide) dL_law_729 ?_
  have hPc := hP.sub (ws' := [(xh0, .inr (11, [.ref xsl, .ref xwalker_, .ref xrd, .ref xmachine_, .ref xtrial_, .ref xdk])), (xsl, .inl (xcT, 8, .inr (.inr (.inr (.inr xfT))))), (xrd, .inr (4, [.ref xlenses_, .int 0, .int 0, .int 0, .int (-1), .int (-1), .ref xtp, .ref xnames_, .ref xquoted_, .ref xlinks_, .ref xwalker2_, .int 0, .int 0, .int 0]))]) [0, 1, 2] rfl
  have hDc := hD.sub (ws' := [(xh0, .inr (11, [.ref xsl, .ref xwalker_, .ref xrd, .ref xmachine_, .ref xtrial_, .ref xdk])), (xsl, .inl (xcT, 8, .inr (.inr (.inr (.inr xfT))))), (xrd, .inr (4, [.ref xlenses_, .int 0, .int 0, .int 0, .int (-1), .int (-1), .ref xtp, .ref xnames_, .ref xquoted_, .ref xlinks_, .ref xwalker2_, .int 0, .int 0, .int 0]))]) [0, 1, 2] (by decide) rfl
  have hKc := hK.sub (tys' := [(xcT, .object RX6)]) [0] rfl
  have hFc := va_free (wc := [(xh0, .inr (11, [.ref xsl, .ref xwalker_, .ref xrd, .ref xmachine_, .ref xtrial_, .ref xdk])), (xsl, .inl (xcT, 8, .inr (.inr (.inr (.inr xfT))))), (xrd, .inr (4, [.ref xlenses_, .int 0, .int 0, .int 0, .int (-1), .int (-1), .ref xtp, .ref xnames_, .ref xquoted_, .ref xlinks_, .ref xwalker2_, .int 0, .int 0, .int 0]))]) hD hS hA [0, 1, 2] rfl
  refine va_calli (va_runV (As := [.int (xs (1 : Int32).toNatClampNeg), .int (xs (2 : Int32).toNatClampNeg), .int (xs (3 : Int32).toNatClampNeg), .int (xs (4 : Int32).toNatClampNeg)]) (rest := []) ⟨hx, hb, hml, hown, hts⟩ (k_goesOn l dC dI H.size xh0 (xs (1 : Int32).toNatClampNeg) (xs (2 : Int32).toNatClampNeg) (xs (3 : Int32).toNatClampNeg) (xs (4 : Int32).toNatClampNeg) xsl xwalker_ xrd xmachine_ xtrial_ xdk xcT xfT xlenses_ xtp xnames_ xquoted_ xlinks_ xwalker2_ hf0) (cwV 4 hts gcase_14_77 rfl rfl rfl (by decide +kernel) ⟨Nat.le_of_ble_eq_true rfl, Nat.le_of_ble_eq_true rfl⟩) ⟨fun a U g mk q => by obtain ⟨q0, q1, qP, qK, qD⟩ := q; exact ⟨q0, q1, qP, va_K.moved (u := U) (U := U.calling g mk a) (Vm.Alike.refl U.vm) qK, qD⟩, va_recv hK hP (ci := 11) (q0 := 0) rfl rfl, fun U hU hW => ⟨rfl, by rw [hU], by rw [hU]; exact hPc, va_K.moved hW.alike hKc, hDc.weaken (fun _ _ _ _ => trivial)⟩⟩ rfl rfl hl.1 rfl (lv_room (Nat.le_of_ble_eq_true rfl)) dL_law_730 ⟨Nat.le_of_ble_eq_true rfl, Nat.le_of_ble_eq_true rfl⟩) hS (fun q _ h => hFc q h) hFc (fun r_6 u t H1 locs ht hvm hw hB hz1 hk1 hS => ?_)
  obtain ⟨hP1, hK1, hD1⟩ := hB
  rw [ht] at hP1
  try dsimp only at hw
  obtain ⟨hP, hD⟩ := va_join (wr := [(mh0, .inr (12, [.int 0, .ref ma1, .ref ma2, .ref ma3, .ref ma4, .ref ma5, .int 0, .ref ma7, .ref ma8, .int 0, .ref ma10, .ref ma11, .ref ma12, .ref ma13, .int 0, .ref ma15, .ref ma16, .ref ma17, .ref ma18, .ref ma19, .ref ma20, .ref ma21, .ref ma22, .int 0, .ref ma24, .int 0, .ref ma26, .ref ma27, .int 0, .ref ma29, .ref ma30, .ref ma31, .ref ma32, .ref ma33, .int 0, .ref ma35, .ref ma36, .int 0, .ref ma38, .int 0, .int 0, .int 0, .int 0, .int 0, .long 0, .int 0, .int 0, .int (-1), .int (-1), .int 0, .ref ma50, .ref ma51, .int 0, .int 0, .ref ma54, .ref ma55, .int (-1), .ref ma57, .ref ma58, .ref ma59, .ref ma60, .int 0, .int 0, .int 0, .ref ma64]))]) (w1 := []) hP hD [0, 1, 2] [3] rfl rfl (by decide) (by decide) hk1 hFc hP1 hD1
  clear hk1 hz1 hPc hDc hFc hP1 hD1 hK1 hKc
  generalize H1 = H at hP hS ⊢
  have hP : va_P (dC, dI) cls [(mh0, .inr (12, [.int 0, .ref ma1, .ref ma2, .ref ma3, .ref ma4, .ref ma5, .int 0, .ref ma7, .ref ma8, .int 0, .ref ma10, .ref ma11, .ref ma12, .ref ma13, .int 0, .ref ma15, .ref ma16, .ref ma17, .ref ma18, .ref ma19, .ref ma20, .ref ma21, .ref ma22, .int 0, .ref ma24, .int 0, .ref ma26, .ref ma27, .int 0, .ref ma29, .ref ma30, .ref ma31, .ref ma32, .ref ma33, .int 0, .ref ma35, .ref ma36, .int 0, .ref ma38, .int 0, .int 0, .int 0, .int 0, .int 0, .long 0, .int 0, .int 0, .int (-1), .int (-1), .int 0, .ref ma50, .ref ma51, .int 0, .int 0, .ref ma54, .ref ma55, .int (-1), .ref ma57, .ref ma58, .ref ma59, .ref ma60, .int 0, .int 0, .int 0, .ref ma64]))] H := hP
  have hD : va_D (fun q : Nat => s.heap.size ≤ q) [(mh0, .inr (12, [.int 0, .ref ma1, .ref ma2, .ref ma3, .ref ma4, .ref ma5, .int 0, .ref ma7, .ref ma8, .int 0, .ref ma10, .ref ma11, .ref ma12, .ref ma13, .int 0, .ref ma15, .ref ma16, .ref ma17, .ref ma18, .ref ma19, .ref ma20, .ref ma21, .ref ma22, .int 0, .ref ma24, .int 0, .ref ma26, .ref ma27, .int 0, .ref ma29, .ref ma30, .ref ma31, .ref ma32, .ref ma33, .int 0, .ref ma35, .ref ma36, .int 0, .ref ma38, .int 0, .int 0, .int 0, .int 0, .int 0, .long 0, .int 0, .int 0, .int (-1), .int (-1), .int 0, .ref ma50, .ref ma51, .int 0, .int 0, .ref ma54, .ref ma55, .int (-1), .ref ma57, .ref ma58, .ref ma59, .ref ma60, .int 0, .int 0, .int 0, .ref ma64]))] := hD
  obtain rfl := hw
  refine lv_aload_n hx hb dL_law_733 rfl (lv_at hl 1 rfl) ?_
  refine lv_aload_n hx hb dL_law_734 rfl (lv_at hl 3 rfl) ?_
  refine lv_iload_n hx hb dL_law_735 rfl (lv_at hl 0 rfl) ?_
  refine lv_iconst (v := 1) hx hb dL_law_736 (by decide) ?_
  refine lv_iadd hx hb dL_law_737 ?_
  refine lv_topi (fun z_7 ez_7 => ?_)
  obtain rfl : z_7 = (1 : Int32) := ez_7.trans (by decide)
  refine va_sld hx hb hX hbl hbA hS (by unfold vp_in; decide) dL_law_738 ?_
  refine lv_aload_n hx hb dL_law_739 rfl (lv_at hl 3 rfl) ?_
  refine lv_iload_n hx hb dL_law_740 rfl (lv_at hl 0 rfl) ?_
  refine lv_iconst (v := 2) hx hb dL_law_741 (by decide) ?_
  refine lv_iadd hx hb dL_law_742 ?_
  refine lv_topi (fun z_8 ez_8 => ?_)
  obtain rfl : z_8 = (2 : Int32) := ez_8.trans (by decide)
  refine va_sld hx hb hX hbl hbA hS (by unfold vp_in; decide) dL_law_743 ?_
  refine lv_aload_n hx hb dL_law_744 rfl (lv_at hl 3 rfl) ?_
  refine lv_iload_n hx hb dL_law_745 rfl (lv_at hl 0 rfl) ?_
  refine lv_iconst (v := 3) hx hb dL_law_746 (by decide) ?_
  refine lv_iadd hx hb dL_law_747 ?_
  refine lv_topi (fun z_9 ez_9 => ?_)
  obtain rfl : z_9 = (3 : Int32) := ez_9.trans (by decide)
  refine va_sld hx hb hX hbl hbA hS (by unfold vp_in; decide) dL_law_748 ?_
  refine lv_aload_n hx hb dL_law_749 rfl (lv_at hl 3 rfl) ?_
  refine lv_iload_n hx hb dL_law_750 rfl (lv_at hl 0 rfl) ?_
  refine lv_iconst (v := 4) hx hb dL_law_751 (by decide) ?_
  refine lv_iadd hx hb dL_law_752 ?_
  refine lv_topi (fun z_10 ez_10 => ?_)
  obtain rfl : z_10 = (4 : Int32) := ez_10.trans (by decide)
  refine va_sld hx hb hX hbl hbA hS (by unfold vp_in; decide) dL_law_753 ?_
  have hPc := hP.sub (ws' := [(mh0, .inr (12, [.int 0, .ref ma1, .ref ma2, .ref ma3, .ref ma4, .ref ma5, .int 0, .ref ma7, .ref ma8, .int 0, .ref ma10, .ref ma11, .ref ma12, .ref ma13, .int 0, .ref ma15, .ref ma16, .ref ma17, .ref ma18, .ref ma19, .ref ma20, .ref ma21, .ref ma22, .int 0, .ref ma24, .int 0, .ref ma26, .ref ma27, .int 0, .ref ma29, .ref ma30, .ref ma31, .ref ma32, .ref ma33, .int 0, .ref ma35, .ref ma36, .int 0, .ref ma38, .int 0, .int 0, .int 0, .int 0, .int 0, .long 0, .int 0, .int 0, .int (-1), .int (-1), .int 0, .ref ma50, .ref ma51, .int 0, .int 0, .ref ma54, .ref ma55, .int (-1), .ref ma57, .ref ma58, .ref ma59, .ref ma60, .int 0, .int 0, .int 0, .ref ma64]))]) [0] rfl
  have hDc := hD.sub (ws' := [(mh0, .inr (12, [.int 0, .ref ma1, .ref ma2, .ref ma3, .ref ma4, .ref ma5, .int 0, .ref ma7, .ref ma8, .int 0, .ref ma10, .ref ma11, .ref ma12, .ref ma13, .int 0, .ref ma15, .ref ma16, .ref ma17, .ref ma18, .ref ma19, .ref ma20, .ref ma21, .ref ma22, .int 0, .ref ma24, .int 0, .ref ma26, .ref ma27, .int 0, .ref ma29, .ref ma30, .ref ma31, .ref ma32, .ref ma33, .int 0, .ref ma35, .ref ma36, .int 0, .ref ma38, .int 0, .int 0, .int 0, .int 0, .int 0, .long 0, .int 0, .int 0, .int (-1), .int (-1), .int 0, .ref ma50, .ref ma51, .int 0, .int 0, .ref ma54, .ref ma55, .int (-1), .ref ma57, .ref ma58, .ref ma59, .ref ma60, .int 0, .int 0, .int 0, .ref ma64]))]) [0] (by decide) rfl
  have hKc := hK.sub (tys' := []) [] rfl
  have hFc := va_free (wc := [(mh0, .inr (12, [.int 0, .ref ma1, .ref ma2, .ref ma3, .ref ma4, .ref ma5, .int 0, .ref ma7, .ref ma8, .int 0, .ref ma10, .ref ma11, .ref ma12, .ref ma13, .int 0, .ref ma15, .ref ma16, .ref ma17, .ref ma18, .ref ma19, .ref ma20, .ref ma21, .ref ma22, .int 0, .ref ma24, .int 0, .ref ma26, .ref ma27, .int 0, .ref ma29, .ref ma30, .ref ma31, .ref ma32, .ref ma33, .int 0, .ref ma35, .ref ma36, .int 0, .ref ma38, .int 0, .int 0, .int 0, .int 0, .int 0, .long 0, .int 0, .int 0, .int (-1), .int (-1), .int 0, .ref ma50, .ref ma51, .int 0, .int 0, .ref ma54, .ref ma55, .int (-1), .ref ma57, .ref ma58, .ref ma59, .ref ma60, .int 0, .int 0, .int 0, .ref ma64]))]) hD hS hA [0] rfl
  refine va_calli (va_runV (As := [.int (xs (1 : Int32).toNatClampNeg), .int (xs (2 : Int32).toNatClampNeg), .int (xs (3 : Int32).toNatClampNeg), .int (xs (4 : Int32).toNatClampNeg)]) (rest := [.int (-1)]) ⟨hx, hb, hml, hown, hts⟩ (m_goesOn l dC dI H.size mh0 (xs (1 : Int32).toNatClampNeg) (xs (2 : Int32).toNatClampNeg) (xs (3 : Int32).toNatClampNeg) (xs (4 : Int32).toNatClampNeg) ma1 ma2 ma3 ma4 ma5 ma7 ma8 ma10 ma11 ma12 ma13 ma15 ma16 ma17 ma18 ma19 ma20 ma21 ma22 ma24 ma26 ma27 ma29 ma30 ma31 ma32 ma33 ma35 ma36 ma38 ma50 ma51 ma54 ma55 ma57 ma58 ma59 ma60 ma64) (cwV 4 hts gcase_14_80 rfl rfl rfl (by decide +kernel) ⟨Nat.le_of_ble_eq_true rfl, Nat.le_of_ble_eq_true rfl⟩) ⟨fun a U g mk q => by obtain ⟨q0, q1, qP, qK, qD⟩ := q; exact ⟨q0, q1, qP, va_K.moved (u := U) (U := U.calling g mk a) (Vm.Alike.refl U.vm) qK, qD⟩, va_recv hK hP (ci := 12) (q0 := 0) rfl rfl, fun U hU hW => ⟨rfl, by rw [hU], by rw [hU]; exact hPc, va_K.moved hW.alike hKc, hDc.weaken (fun _ _ _ _ => trivial)⟩⟩ rfl rfl hl.1 rfl (lv_room (Nat.le_of_ble_eq_true rfl)) dL_law_754 ⟨Nat.le_of_ble_eq_true rfl, Nat.le_of_ble_eq_true rfl⟩) hS (fun q _ h => hFc q h) hFc (fun r_12 u t H1 locs ht hvm hw hB hz1 hk1 hS => ?_)
  obtain ⟨hP1, hK1, hD1⟩ := hB
  rw [ht] at hP1
  try dsimp only at hw
  obtain ⟨hP, hD⟩ := va_join (wr := []) (w1 := []) hP hD [0] [] rfl rfl (by decide) (by decide) hk1 hFc hP1 hD1
  clear hk1 hz1 hPc hDc hFc hP1 hD1 hK1 hKc
  generalize H1 = H at hP hS ⊢
  have hP : va_P (dC, dI) cls [] H := hP
  have hD : va_D (fun q : Nat => s.heap.size ≤ q) [] := hD
  obtain rfl := hw
  refine lv_icmp_eq (tgt := 1218) hx hb dL_law_757 (by decide) (fun c_13 => ?_) (fun c_13 => ?_)
  rotate_left
  · exact (by revert c_13; decide : False).elim
  exact law_tail l C0 hS (Nat.le_of_ble_eq_true rfl) (Nat.le_of_ble_eq_true rfl) (lv_sub hl [3, 0] rfl)
theorem gcase_15_81g : GoodIn lwS wk_parts := goodIn_r _ [447, 365, 366, 367, 202, 368, 190, 369, 448, 449, 450, 320, 321, 322, 323, 324, 57, 58, 59, 60, 61, 62, 63, 64, 65, 66, 67, 68, 69, 70, 118, 119, 120, 121, 122, 123] (by decide +kernel) (by decide +kernel)
theorem gcase_15_81 : GoodIn lwS (wsV RL 81 RX11 yX11_parts wk_parts) := goodIn_app (goodIn_r _ [451, 452, 453, 202] (by decide +kernel) (by decide +kernel)) gcase_15_81g
theorem gcase_15_84g : GoodIn lwS wm_parts := goodIn_r _ [454, 204, 455, 456, 457, 210, 458, 374, 375, 376, 377, 292, 216, 217, 218, 219, 124, 125, 126, 127, 128, 129, 130, 131, 132, 133, 134, 135, 136, 137, 138, 139, 140, 141, 142, 143, 144, 145, 146, 147, 148, 149, 150, 151, 152, 153, 154, 155, 156, 157, 158, 159, 160, 161, 162, 163, 164, 165, 166, 167, 168, 169, 170, 171, 172, 173, 174, 175, 176, 177, 178, 179, 180, 181, 182, 183, 184, 185, 186, 187, 188] (by decide +kernel) (by decide +kernel)
theorem gcase_15_84 : GoodIn lwS (wsV RL 84 RX12 yX12_parts wm_parts) := goodIn_app (goodIn_r _ [459, 460, 461, 210] (by decide +kernel) (by decide +kernel)) gcase_15_84g
set_option maxHeartbeats 4000000 in
set_option maxRecDepth 100000 in
theorem case_15 {p : Program} {e : Env} {s : State} {m : MethodId} {below : List Frame} {meth : Method} {c : Code} (l : Launch) {b : Nat} {xs : Nat → Int32} (C0 : lw_At p s m meth c b 6 xs) (dC : Nat → ClassId) (dI : Nat → Nat → Nat) (mh0 : Nat) (xh0 : Nat) (xsl : Nat) (xwalker_ : Nat) (xrd : Nat) (xmachine_ : Nat) (xtrial_ : Nat) (xdk : Nat) (xcT : ClassId) (xfT : Nat → Option Nat) (xlenses_ : Nat) (xtp : Nat) (xnames_ : Nat) (xquoted_ : Nat) (xlinks_ : Nat) (xwalker2_ : Nat) (ma1 : Nat) (ma2 : Nat) (ma3 : Nat) (ma4 : Nat) (ma5 : Nat) (ma7 : Nat) (ma8 : Nat) (ma10 : Nat) (ma11 : Nat) (ma12 : Nat) (ma13 : Nat) (ma15 : Nat) (ma16 : Nat) (ma17 : Nat) (ma18 : Nat) (ma19 : Nat) (ma20 : Nat) (ma21 : Nat) (ma22 : Nat) (ma24 : Nat) (ma26 : Nat) (ma27 : Nat) (ma29 : Nat) (ma30 : Nat) (ma31 : Nat) (ma32 : Nat) (ma33 : Nat) (ma35 : Nat) (ma36 : Nat) (ma38 : Nat) (ma50 : Nat) (ma51 : Nat) (ma54 : Nat) (ma55 : Nat) (ma57 : Nat) (ma58 : Nat) (ma59 : Nat) (ma60 : Nat) (ma64 : Nat) (hf0 : ∀ i : Int32, inS i → ∃ t, xfT i.toNatClampNeg = some t) {H : Heap} {locs : List Loc} {ls : Array Slot} (hK : va_K (dC, dI) cls [(xcT, .object RX6)] s) (hP : va_P (dC, dI) cls [(xh0, .inr (11, [.ref xsl, .ref xwalker_, .ref xrd, .ref xmachine_, .ref xtrial_, .ref xdk])), (xsl, .inl (xcT, 8, .inr (.inr (.inr (.inr xfT))))), (xrd, .inr (4, [.ref xlenses_, .int 0, .int 0, .int 0, .int (-1), .int (-1), .ref xtp, .ref xnames_, .ref xquoted_, .ref xlinks_, .ref xwalker2_, .int 0, .int 0, .int 0])), (mh0, .inr (12, [.int 0, .ref ma1, .ref ma2, .ref ma3, .ref ma4, .ref ma5, .int 0, .ref ma7, .ref ma8, .int 0, .ref ma10, .ref ma11, .ref ma12, .ref ma13, .int 0, .ref ma15, .ref ma16, .ref ma17, .ref ma18, .ref ma19, .ref ma20, .ref ma21, .ref ma22, .int 0, .ref ma24, .int 0, .ref ma26, .ref ma27, .int 0, .ref ma29, .ref ma30, .ref ma31, .ref ma32, .ref ma33, .int 0, .ref ma35, .ref ma36, .int 0, .ref ma38, .int 0, .int 0, .int 0, .int 0, .int 0, .long 0, .int 0, .int 0, .int (-1), .int (-1), .int 0, .ref ma50, .ref ma51, .int 0, .int 0, .ref ma54, .ref ma55, .int (-1), .ref ma57, .ref ma58, .ref ma59, .ref ma60, .int 0, .int 0, .int 0, .ref ma64]))] H) (hD : va_D (fun q : Nat => s.heap.size ≤ q) [(xh0, .inr (11, [.ref xsl, .ref xwalker_, .ref xrd, .ref xmachine_, .ref xtrial_, .ref xdk])), (xsl, .inl (xcT, 8, .inr (.inr (.inr (.inr xfT))))), (xrd, .inr (4, [.ref xlenses_, .int 0, .int 0, .int 0, .int (-1), .int (-1), .ref xtp, .ref xnames_, .ref xquoted_, .ref xlinks_, .ref xwalker2_, .int 0, .int 0, .int 0])), (mh0, .inr (12, [.int 0, .ref ma1, .ref ma2, .ref ma3, .ref ma4, .ref ma5, .int 0, .ref ma7, .ref ma8, .int 0, .ref ma10, .ref ma11, .ref ma12, .ref ma13, .int 0, .ref ma15, .ref ma16, .ref ma17, .ref ma18, .ref ma19, .ref ma20, .ref ma21, .ref ma22, .int 0, .ref ma24, .int 0, .ref ma26, .ref ma27, .int 0, .ref ma29, .ref ma30, .ref ma31, .ref ma32, .ref ma33, .int 0, .ref ma35, .ref ma36, .int 0, .ref ma38, .int 0, .int 0, .int 0, .int 0, .int 0, .long 0, .int 0, .int 0, .int (-1), .int (-1), .int 0, .ref ma50, .ref ma51, .int 0, .int 0, .ref ma54, .ref ma55, .int (-1), .ref ma57, .ref ma58, .ref ma59, .ref ma60, .int 0, .int 0, .int 0, .ref ma64]))]) (hS : va_S (fun q : Nat => s.heap.size ≤ q) s.heap H locs) (hl : lv_has ls 4 [(3, .int 0), (2, .ref mh0), (1, .ref xh0), (0, .ref b)]) : W p l e room_1 s m #[Value.ref b] below meth c H locs 185 1243858 (lw_Z below #[Value.ref b] s) (F0 m 762 ls []) := by
  obtain ⟨hx, hb, hr, hml, hown0, hts0, hX, hbl, hlocks, hgv⟩ := id C0
  have hown : s.vm.findClass RL = some m.cls := hown0
  have hts : ∀ w ∈ lwS, w.before #[Value.ref b] s = true := fun w h => hts0 w (wsL_law_in w h)
  have hA : ∀ q : Nat, s.heap.size ≤ q → (fun q : Nat => s.heap.size ≤ q) q := fun _ h => h
  have hbA : ¬ (fun q : Nat => s.heap.size ≤ q) b := Nat.not_le.mpr hbl
  refine lv_aload_n hx hb dL_law_762 rfl (lv_at hl 2 rfl) ?_
  refine lv_aload_n hx hb dL_law_763 rfl (lv_at hl 3 rfl) ?_
  refine lv_iload_n hx hb dL_law_764 rfl (lv_at hl 0 rfl) ?_
  refine lv_iconst (v := 1) hx hb dL_law_765 (by decide) ?_
  refine lv_iadd hx hb dL_law_766 ?_
  refine lv_topi (fun z_1 ez_1 => ?_)
  obtain rfl : z_1 = (1 : Int32) := ez_1.trans (by decide)
  refine va_sld hx hb hX hbl hbA hS (by unfold vp_in; decide) dL_law_767 ?_
  refine lv_aload_n hx hb dL_law_768 rfl (lv_at hl 3 rfl) ?_
  refine lv_iload_n hx hb dL_law_769 rfl (lv_at hl 0 rfl) ?_
  refine lv_iconst (v := 2) hx hb dL_law_770 (by decide) ?_
  refine lv_iadd hx hb dL_law_771 ?_
  refine lv_topi (fun z_2 ez_2 => ?_)
  obtain rfl : z_2 = (2 : Int32) := ez_2.trans (by decide)
  refine va_sld hx hb hX hbl hbA hS (by unfold vp_in; decide) dL_law_772 ?_
  have hPc := hP.sub (ws' := [(xh0, .inr (11, [.ref xsl, .ref xwalker_, .ref xrd, .ref xmachine_, .ref xtrial_, .ref xdk])), (xsl, .inl (xcT, 8, .inr (.inr (.inr (.inr xfT))))), (xrd, .inr (4, [.ref xlenses_, .int 0, .int 0, .int 0, .int (-1), .int (-1), .ref xtp, .ref xnames_, .ref xquoted_, .ref xlinks_, .ref xwalker2_, .int 0, .int 0, .int 0]))]) [0, 1, 2] rfl
  have hDc := hD.sub (ws' := [(xh0, .inr (11, [.ref xsl, .ref xwalker_, .ref xrd, .ref xmachine_, .ref xtrial_, .ref xdk])), (xsl, .inl (xcT, 8, .inr (.inr (.inr (.inr xfT))))), (xrd, .inr (4, [.ref xlenses_, .int 0, .int 0, .int 0, .int (-1), .int (-1), .ref xtp, .ref xnames_, .ref xquoted_, .ref xlinks_, .ref xwalker2_, .int 0, .int 0, .int 0]))]) [0, 1, 2] (by decide) rfl
  have hKc := hK.sub (tys' := [(xcT, .object RX6)]) [0] rfl
  have hFc := va_free (wc := [(xh0, .inr (11, [.ref xsl, .ref xwalker_, .ref xrd, .ref xmachine_, .ref xtrial_, .ref xdk])), (xsl, .inl (xcT, 8, .inr (.inr (.inr (.inr xfT))))), (xrd, .inr (4, [.ref xlenses_, .int 0, .int 0, .int 0, .int (-1), .int (-1), .ref xtp, .ref xnames_, .ref xquoted_, .ref xlinks_, .ref xwalker2_, .int 0, .int 0, .int 0]))]) hD hS hA [0, 1, 2] rfl
  refine va_calli (va_runV (As := [.int (xs (1 : Int32).toNatClampNeg), .int (xs (2 : Int32).toNatClampNeg)]) (rest := []) ⟨hx, hb, hml, hown, hts⟩ (k_parts l dC dI H.size xh0 (xs (1 : Int32).toNatClampNeg) (xs (2 : Int32).toNatClampNeg) xsl xwalker_ xrd xmachine_ xtrial_ xdk xcT xfT xlenses_ xtp xnames_ xquoted_ xlinks_ xwalker2_ hf0) (cwV 2 hts gcase_15_81 rfl rfl rfl (by decide +kernel) ⟨Nat.le_of_ble_eq_true rfl, Nat.le_of_ble_eq_true rfl⟩) ⟨fun a U g mk q => by obtain ⟨q0, q1, qP, qK, qD⟩ := q; exact ⟨q0, q1, qP, va_K.moved (u := U) (U := U.calling g mk a) (Vm.Alike.refl U.vm) qK, qD⟩, va_recv hK hP (ci := 11) (q0 := 0) rfl rfl, fun U hU hW => ⟨rfl, by rw [hU], by rw [hU]; exact hPc, va_K.moved hW.alike hKc, hDc.weaken (fun _ _ _ _ => trivial)⟩⟩ rfl rfl hl.1 rfl (lv_room (Nat.le_of_ble_eq_true rfl)) dL_law_773 ⟨Nat.le_of_ble_eq_true rfl, Nat.le_of_ble_eq_true rfl⟩) hS (fun q _ h => hFc q h) hFc (fun r_4 u t H1 locs ht hvm hw hB hz1 hk1 hS => ?_)
  obtain ⟨hP1, hK1, hD1⟩ := hB
  rw [ht] at hP1
  try dsimp only at hw
  obtain ⟨hP, hD⟩ := va_join (wr := [(mh0, .inr (12, [.int 0, .ref ma1, .ref ma2, .ref ma3, .ref ma4, .ref ma5, .int 0, .ref ma7, .ref ma8, .int 0, .ref ma10, .ref ma11, .ref ma12, .ref ma13, .int 0, .ref ma15, .ref ma16, .ref ma17, .ref ma18, .ref ma19, .ref ma20, .ref ma21, .ref ma22, .int 0, .ref ma24, .int 0, .ref ma26, .ref ma27, .int 0, .ref ma29, .ref ma30, .ref ma31, .ref ma32, .ref ma33, .int 0, .ref ma35, .ref ma36, .int 0, .ref ma38, .int 0, .int 0, .int 0, .int 0, .int 0, .long 0, .int 0, .int 0, .int (-1), .int (-1), .int 0, .ref ma50, .ref ma51, .int 0, .int 0, .ref ma54, .ref ma55, .int (-1), .ref ma57, .ref ma58, .ref ma59, .ref ma60, .int 0, .int 0, .int 0, .ref ma64]))]) (w1 := []) hP hD [0, 1, 2] [3] rfl rfl (by decide) (by decide) hk1 hFc hP1 hD1
  clear hk1 hz1 hPc hDc hFc hP1 hD1 hK1 hKc
  generalize H1 = H at hP hS ⊢
  have hP : va_P (dC, dI) cls [(mh0, .inr (12, [.int 0, .ref ma1, .ref ma2, .ref ma3, .ref ma4, .ref ma5, .int 0, .ref ma7, .ref ma8, .int 0, .ref ma10, .ref ma11, .ref ma12, .ref ma13, .int 0, .ref ma15, .ref ma16, .ref ma17, .ref ma18, .ref ma19, .ref ma20, .ref ma21, .ref ma22, .int 0, .ref ma24, .int 0, .ref ma26, .ref ma27, .int 0, .ref ma29, .ref ma30, .ref ma31, .ref ma32, .ref ma33, .int 0, .ref ma35, .ref ma36, .int 0, .ref ma38, .int 0, .int 0, .int 0, .int 0, .int 0, .long 0, .int 0, .int 0, .int (-1), .int (-1), .int 0, .ref ma50, .ref ma51, .int 0, .int 0, .ref ma54, .ref ma55, .int (-1), .ref ma57, .ref ma58, .ref ma59, .ref ma60, .int 0, .int 0, .int 0, .ref ma64]))] H := hP
  have hD : va_D (fun q : Nat => s.heap.size ≤ q) [(mh0, .inr (12, [.int 0, .ref ma1, .ref ma2, .ref ma3, .ref ma4, .ref ma5, .int 0, .ref ma7, .ref ma8, .int 0, .ref ma10, .ref ma11, .ref ma12, .ref ma13, .int 0, .ref ma15, .ref ma16, .ref ma17, .ref ma18, .ref ma19, .ref ma20, .ref ma21, .ref ma22, .int 0, .ref ma24, .int 0, .ref ma26, .ref ma27, .int 0, .ref ma29, .ref ma30, .ref ma31, .ref ma32, .ref ma33, .int 0, .ref ma35, .ref ma36, .int 0, .ref ma38, .int 0, .int 0, .int 0, .int 0, .int 0, .long 0, .int 0, .int 0, .int (-1), .int (-1), .int 0, .ref ma50, .ref ma51, .int 0, .int 0, .ref ma54, .ref ma55, .int (-1), .ref ma57, .ref ma58, .ref ma59, .ref ma60, .int 0, .int 0, .int 0, .ref ma64]))] := hD
  obtain rfl := hw
  refine lv_aload_n hx hb dL_law_776 rfl (lv_at hl 1 rfl) ?_
  refine lv_aload_n hx hb dL_law_777 rfl (lv_at hl 3 rfl) ?_
  refine lv_iload_n hx hb dL_law_778 rfl (lv_at hl 0 rfl) ?_
  refine lv_iconst (v := 1) hx hb dL_law_779 (by decide) ?_
  refine lv_iadd hx hb dL_law_780 ?_
  refine lv_topi (fun z_5 ez_5 => ?_)
  obtain rfl : z_5 = (1 : Int32) := ez_5.trans (by decide)
  refine va_sld hx hb hX hbl hbA hS (by unfold vp_in; decide) dL_law_781 ?_
  refine lv_aload_n hx hb dL_law_782 rfl (lv_at hl 3 rfl) ?_
  refine lv_iload_n hx hb dL_law_783 rfl (lv_at hl 0 rfl) ?_
  refine lv_iconst (v := 2) hx hb dL_law_784 (by decide) ?_
  refine lv_iadd hx hb dL_law_785 ?_
  refine lv_topi (fun z_6 ez_6 => ?_)
  obtain rfl : z_6 = (2 : Int32) := ez_6.trans (by decide)
  refine va_sld hx hb hX hbl hbA hS (by unfold vp_in; decide) dL_law_786 ?_
  have hPc := hP.sub (ws' := [(mh0, .inr (12, [.int 0, .ref ma1, .ref ma2, .ref ma3, .ref ma4, .ref ma5, .int 0, .ref ma7, .ref ma8, .int 0, .ref ma10, .ref ma11, .ref ma12, .ref ma13, .int 0, .ref ma15, .ref ma16, .ref ma17, .ref ma18, .ref ma19, .ref ma20, .ref ma21, .ref ma22, .int 0, .ref ma24, .int 0, .ref ma26, .ref ma27, .int 0, .ref ma29, .ref ma30, .ref ma31, .ref ma32, .ref ma33, .int 0, .ref ma35, .ref ma36, .int 0, .ref ma38, .int 0, .int 0, .int 0, .int 0, .int 0, .long 0, .int 0, .int 0, .int (-1), .int (-1), .int 0, .ref ma50, .ref ma51, .int 0, .int 0, .ref ma54, .ref ma55, .int (-1), .ref ma57, .ref ma58, .ref ma59, .ref ma60, .int 0, .int 0, .int 0, .ref ma64]))]) [0] rfl
  have hDc := hD.sub (ws' := [(mh0, .inr (12, [.int 0, .ref ma1, .ref ma2, .ref ma3, .ref ma4, .ref ma5, .int 0, .ref ma7, .ref ma8, .int 0, .ref ma10, .ref ma11, .ref ma12, .ref ma13, .int 0, .ref ma15, .ref ma16, .ref ma17, .ref ma18, .ref ma19, .ref ma20, .ref ma21, .ref ma22, .int 0, .ref ma24, .int 0, .ref ma26, .ref ma27, .int 0, .ref ma29, .ref ma30, .ref ma31, .ref ma32, .ref ma33, .int 0, .ref ma35, .ref ma36, .int 0, .ref ma38, .int 0, .int 0, .int 0, .int 0, .int 0, .long 0, .int 0, .int 0, .int (-1), .int (-1), .int 0, .ref ma50, .ref ma51, .int 0, .int 0, .ref ma54, .ref ma55, .int (-1), .ref ma57, .ref ma58, .ref ma59, .ref ma60, .int 0, .int 0, .int 0, .ref ma64]))]) [0] (by decide) rfl
  have hKc := hK.sub (tys' := []) [] rfl
  have hFc := va_free (wc := [(mh0, .inr (12, [.int 0, .ref ma1, .ref ma2, .ref ma3, .ref ma4, .ref ma5, .int 0, .ref ma7, .ref ma8, .int 0, .ref ma10, .ref ma11, .ref ma12, .ref ma13, .int 0, .ref ma15, .ref ma16, .ref ma17, .ref ma18, .ref ma19, .ref ma20, .ref ma21, .ref ma22, .int 0, .ref ma24, .int 0, .ref ma26, .ref ma27, .int 0, .ref ma29, .ref ma30, .ref ma31, .ref ma32, .ref ma33, .int 0, .ref ma35, .ref ma36, .int 0, .ref ma38, .int 0, .int 0, .int 0, .int 0, .int 0, .long 0, .int 0, .int 0, .int (-1), .int (-1), .int 0, .ref ma50, .ref ma51, .int 0, .int 0, .ref ma54, .ref ma55, .int (-1), .ref ma57, .ref ma58, .ref ma59, .ref ma60, .int 0, .int 0, .int 0, .ref ma64]))]) hD hS hA [0] rfl
  refine va_calli (va_runV (As := [.int (xs (1 : Int32).toNatClampNeg), .int (xs (2 : Int32).toNatClampNeg)]) (rest := [.int (-1)]) ⟨hx, hb, hml, hown, hts⟩ (m_parts l dC dI H.size mh0 (xs (1 : Int32).toNatClampNeg) (xs (2 : Int32).toNatClampNeg) ma1 ma2 ma3 ma4 ma5 ma7 ma8 ma10 ma11 ma12 ma13 ma15 ma16 ma17 ma18 ma19 ma20 ma21 ma22 ma24 ma26 ma27 ma29 ma30 ma31 ma32 ma33 ma35 ma36 ma38 ma50 ma51 ma54 ma55 ma57 ma58 ma59 ma60 ma64) (cwV 2 hts gcase_15_84 rfl rfl rfl (by decide +kernel) ⟨Nat.le_of_ble_eq_true rfl, Nat.le_of_ble_eq_true rfl⟩) ⟨fun a U g mk q => by obtain ⟨q0, q1, qP, qK, qD⟩ := q; exact ⟨q0, q1, qP, va_K.moved (u := U) (U := U.calling g mk a) (Vm.Alike.refl U.vm) qK, qD⟩, va_recv hK hP (ci := 12) (q0 := 0) rfl rfl, fun U hU hW => ⟨rfl, by rw [hU], by rw [hU]; exact hPc, va_K.moved hW.alike hKc, hDc.weaken (fun _ _ _ _ => trivial)⟩⟩ rfl rfl hl.1 rfl (lv_room (Nat.le_of_ble_eq_true rfl)) dL_law_787 ⟨Nat.le_of_ble_eq_true rfl, Nat.le_of_ble_eq_true rfl⟩) hS (fun q _ h => hFc q h) hFc (fun r_8 u t H1 locs ht hvm hw hB hz1 hk1 hS => ?_)
  obtain ⟨hP1, hK1, hD1⟩ := hB
  rw [ht] at hP1
  try dsimp only at hw
  obtain ⟨hP, hD⟩ := va_join (wr := []) (w1 := []) hP hD [0] [] rfl rfl (by decide) (by decide) hk1 hFc hP1 hD1
  clear hk1 hz1 hPc hDc hFc hP1 hD1 hK1 hKc
  generalize H1 = H at hP hS ⊢
  have hP : va_P (dC, dI) cls [] H := hP
  have hD : va_D (fun q : Nat => s.heap.size ≤ q) [] := hD
  obtain rfl := hw
  refine lv_icmp_eq (tgt := 1218) hx hb dL_law_790 (by decide) (fun c_9 => ?_) (fun c_9 => ?_)
  rotate_left
  · exact (by revert c_9; decide : False).elim
  exact law_tail l C0 hS (Nat.le_of_ble_eq_true rfl) (Nat.le_of_ble_eq_true rfl) (lv_sub hl [3, 0] rfl)
theorem gcase_16_85g : GoodIn lwS wk_aligned := goodIn_r _ [462, 365, 366, 367, 202, 368, 190, 369, 320, 321, 322, 323, 324, 57, 58, 59, 60, 61, 62, 63, 64, 65, 66, 67, 68, 69, 70, 118, 119, 120, 121, 122, 123] (by decide +kernel) (by decide +kernel)
theorem gcase_16_85 : GoodIn lwS (wsV RL 85 RX11 yX11_aligned wk_aligned) := goodIn_app (goodIn_r _ [463, 464, 465, 202] (by decide +kernel) (by decide +kernel)) gcase_16_85g
theorem gcase_16_88g : GoodIn lwS wm_aligned := goodIn_r _ [466, 204, 455, 456, 457, 210, 458, 374, 375, 376, 377, 292, 216, 217, 218, 219, 124, 125, 126, 127, 128, 129, 130, 131, 132, 133, 134, 135, 136, 137, 138, 139, 140, 141, 142, 143, 144, 145, 146, 147, 148, 149, 150, 151, 152, 153, 154, 155, 156, 157, 158, 159, 160, 161, 162, 163, 164, 165, 166, 167, 168, 169, 170, 171, 172, 173, 174, 175, 176, 177, 178, 179, 180, 181, 182, 183, 184, 185, 186, 187, 188] (by decide +kernel) (by decide +kernel)
theorem gcase_16_88 : GoodIn lwS (wsV RL 88 RX12 yX12_aligned wm_aligned) := goodIn_app (goodIn_r _ [467, 468, 469, 210] (by decide +kernel) (by decide +kernel)) gcase_16_88g
set_option maxHeartbeats 4000000 in
set_option maxRecDepth 100000 in
theorem case_16 {p : Program} {e : Env} {s : State} {m : MethodId} {below : List Frame} {meth : Method} {c : Code} (l : Launch) {b : Nat} {xs : Nat → Int32} (C0 : lw_At p s m meth c b 6 xs) (dC : Nat → ClassId) (dI : Nat → Nat → Nat) (mh0 : Nat) (xh0 : Nat) (xsl : Nat) (xwalker_ : Nat) (xrd : Nat) (xmachine_ : Nat) (xtrial_ : Nat) (xdk : Nat) (xcT : ClassId) (xfT : Nat → Option Nat) (xlenses_ : Nat) (xtp : Nat) (xnames_ : Nat) (xquoted_ : Nat) (xlinks_ : Nat) (xwalker2_ : Nat) (ma1 : Nat) (ma2 : Nat) (ma3 : Nat) (ma4 : Nat) (ma5 : Nat) (ma7 : Nat) (ma8 : Nat) (ma10 : Nat) (ma11 : Nat) (ma12 : Nat) (ma13 : Nat) (ma15 : Nat) (ma16 : Nat) (ma17 : Nat) (ma18 : Nat) (ma19 : Nat) (ma20 : Nat) (ma21 : Nat) (ma22 : Nat) (ma24 : Nat) (ma26 : Nat) (ma27 : Nat) (ma29 : Nat) (ma30 : Nat) (ma31 : Nat) (ma32 : Nat) (ma33 : Nat) (ma35 : Nat) (ma36 : Nat) (ma38 : Nat) (ma50 : Nat) (ma51 : Nat) (ma54 : Nat) (ma55 : Nat) (ma57 : Nat) (ma58 : Nat) (ma59 : Nat) (ma60 : Nat) (ma64 : Nat) (hf0 : ∀ i : Int32, inS i → ∃ t, xfT i.toNatClampNeg = some t) {H : Heap} {locs : List Loc} {ls : Array Slot} (hK : va_K (dC, dI) cls [(xcT, .object RX6)] s) (hP : va_P (dC, dI) cls [(xh0, .inr (11, [.ref xsl, .ref xwalker_, .ref xrd, .ref xmachine_, .ref xtrial_, .ref xdk])), (xsl, .inl (xcT, 8, .inr (.inr (.inr (.inr xfT))))), (xrd, .inr (4, [.ref xlenses_, .int 0, .int 0, .int 0, .int (-1), .int (-1), .ref xtp, .ref xnames_, .ref xquoted_, .ref xlinks_, .ref xwalker2_, .int 0, .int 0, .int 0])), (mh0, .inr (12, [.int 0, .ref ma1, .ref ma2, .ref ma3, .ref ma4, .ref ma5, .int 0, .ref ma7, .ref ma8, .int 0, .ref ma10, .ref ma11, .ref ma12, .ref ma13, .int 0, .ref ma15, .ref ma16, .ref ma17, .ref ma18, .ref ma19, .ref ma20, .ref ma21, .ref ma22, .int 0, .ref ma24, .int 0, .ref ma26, .ref ma27, .int 0, .ref ma29, .ref ma30, .ref ma31, .ref ma32, .ref ma33, .int 0, .ref ma35, .ref ma36, .int 0, .ref ma38, .int 0, .int 0, .int 0, .int 0, .int 0, .long 0, .int 0, .int 0, .int (-1), .int (-1), .int 0, .ref ma50, .ref ma51, .int 0, .int 0, .ref ma54, .ref ma55, .int (-1), .ref ma57, .ref ma58, .ref ma59, .ref ma60, .int 0, .int 0, .int 0, .ref ma64]))] H) (hD : va_D (fun q : Nat => s.heap.size ≤ q) [(xh0, .inr (11, [.ref xsl, .ref xwalker_, .ref xrd, .ref xmachine_, .ref xtrial_, .ref xdk])), (xsl, .inl (xcT, 8, .inr (.inr (.inr (.inr xfT))))), (xrd, .inr (4, [.ref xlenses_, .int 0, .int 0, .int 0, .int (-1), .int (-1), .ref xtp, .ref xnames_, .ref xquoted_, .ref xlinks_, .ref xwalker2_, .int 0, .int 0, .int 0])), (mh0, .inr (12, [.int 0, .ref ma1, .ref ma2, .ref ma3, .ref ma4, .ref ma5, .int 0, .ref ma7, .ref ma8, .int 0, .ref ma10, .ref ma11, .ref ma12, .ref ma13, .int 0, .ref ma15, .ref ma16, .ref ma17, .ref ma18, .ref ma19, .ref ma20, .ref ma21, .ref ma22, .int 0, .ref ma24, .int 0, .ref ma26, .ref ma27, .int 0, .ref ma29, .ref ma30, .ref ma31, .ref ma32, .ref ma33, .int 0, .ref ma35, .ref ma36, .int 0, .ref ma38, .int 0, .int 0, .int 0, .int 0, .int 0, .long 0, .int 0, .int 0, .int (-1), .int (-1), .int 0, .ref ma50, .ref ma51, .int 0, .int 0, .ref ma54, .ref ma55, .int (-1), .ref ma57, .ref ma58, .ref ma59, .ref ma60, .int 0, .int 0, .int 0, .ref ma64]))]) (hS : va_S (fun q : Nat => s.heap.size ≤ q) s.heap H locs) (hl : lv_has ls 4 [(3, .int 0), (2, .ref mh0), (1, .ref xh0), (0, .ref b)]) : W p l e room_1 s m #[Value.ref b] below meth c H locs 185 1243858 (lw_Z below #[Value.ref b] s) (F0 m 795 ls []) := by
  obtain ⟨hx, hb, hr, hml, hown0, hts0, hX, hbl, hlocks, hgv⟩ := id C0
  have hown : s.vm.findClass RL = some m.cls := hown0
  have hts : ∀ w ∈ lwS, w.before #[Value.ref b] s = true := fun w h => hts0 w (wsL_law_in w h)
  have hA : ∀ q : Nat, s.heap.size ≤ q → (fun q : Nat => s.heap.size ≤ q) q := fun _ h => h
  have hbA : ¬ (fun q : Nat => s.heap.size ≤ q) b := Nat.not_le.mpr hbl
  refine lv_aload_n hx hb dL_law_795 rfl (lv_at hl 2 rfl) ?_
  refine lv_aload_n hx hb dL_law_796 rfl (lv_at hl 3 rfl) ?_
  refine lv_iload_n hx hb dL_law_797 rfl (lv_at hl 0 rfl) ?_
  refine lv_iconst (v := 1) hx hb dL_law_798 (by decide) ?_
  refine lv_iadd hx hb dL_law_799 ?_
  refine lv_topi (fun z_1 ez_1 => ?_)
  obtain rfl : z_1 = (1 : Int32) := ez_1.trans (by decide)
  refine va_sld hx hb hX hbl hbA hS (by unfold vp_in; decide) dL_law_800 ?_
  refine lv_aload_n hx hb dL_law_801 rfl (lv_at hl 3 rfl) ?_
  refine lv_iload_n hx hb dL_law_802 rfl (lv_at hl 0 rfl) ?_
  refine lv_iconst (v := 2) hx hb dL_law_803 (by decide) ?_
  refine lv_iadd hx hb dL_law_804 ?_
  refine lv_topi (fun z_2 ez_2 => ?_)
  obtain rfl : z_2 = (2 : Int32) := ez_2.trans (by decide)
  refine va_sld hx hb hX hbl hbA hS (by unfold vp_in; decide) dL_law_805 ?_
  refine lv_aload_n hx hb dL_law_806 rfl (lv_at hl 3 rfl) ?_
  refine lv_iload_n hx hb dL_law_807 rfl (lv_at hl 0 rfl) ?_
  refine lv_iconst (v := 3) hx hb dL_law_808 (by decide) ?_
  refine lv_iadd hx hb dL_law_809 ?_
  refine lv_topi (fun z_3 ez_3 => ?_)
  obtain rfl : z_3 = (3 : Int32) := ez_3.trans (by decide)
  refine va_sld hx hb hX hbl hbA hS (by unfold vp_in; decide) dL_law_810 ?_
  refine lv_aload_n hx hb dL_law_811 rfl (lv_at hl 3 rfl) ?_
  refine lv_iload_n hx hb dL_law_812 rfl (lv_at hl 0 rfl) ?_
  refine lv_iconst (v := 4) hx hb dL_law_813 (by decide) ?_
  refine lv_iadd hx hb dL_law_814 ?_
  refine lv_topi (fun z_4 ez_4 => ?_)
  obtain rfl : z_4 = (4 : Int32) := ez_4.trans (by decide)
  refine va_sld hx hb hX hbl hbA hS (by unfold vp_in; decide) dL_law_815 ?_
  have hPc := hP.sub (ws' := [(xh0, .inr (11, [.ref xsl, .ref xwalker_, .ref xrd, .ref xmachine_, .ref xtrial_, .ref xdk])), (xsl, .inl (xcT, 8, .inr (.inr (.inr (.inr xfT))))), (xrd, .inr (4, [.ref xlenses_, .int 0, .int 0, .int 0, .int (-1), .int (-1), .ref xtp, .ref xnames_, .ref xquoted_, .ref xlinks_, .ref xwalker2_, .int 0, .int 0, .int 0]))]) [0, 1, 2] rfl
  have hDc := hD.sub (ws' := [(xh0, .inr (11, [.ref xsl, .ref xwalker_, .ref xrd, .ref xmachine_, .ref xtrial_, .ref xdk])), (xsl, .inl (xcT, 8, .inr (.inr (.inr (.inr xfT))))), (xrd, .inr (4, [.ref xlenses_, .int 0, .int 0, .int 0, .int (-1), .int (-1), .ref xtp, .ref xnames_, .ref xquoted_, .ref xlinks_, .ref xwalker2_, .int 0, .int 0, .int 0]))]) [0, 1, 2] (by decide) rfl
  have hKc := hK.sub (tys' := [(xcT, .object RX6)]) [0] rfl
  have hFc := va_free (wc := [(xh0, .inr (11, [.ref xsl, .ref xwalker_, .ref xrd, .ref xmachine_, .ref xtrial_, .ref xdk])), (xsl, .inl (xcT, 8, .inr (.inr (.inr (.inr xfT))))), (xrd, .inr (4, [.ref xlenses_, .int 0, .int 0, .int 0, .int (-1), .int (-1), .ref xtp, .ref xnames_, .ref xquoted_, .ref xlinks_, .ref xwalker2_, .int 0, .int 0, .int 0]))]) hD hS hA [0, 1, 2] rfl
  refine va_calli (va_runV (As := [.int (xs (1 : Int32).toNatClampNeg), .int (xs (2 : Int32).toNatClampNeg), .int (xs (3 : Int32).toNatClampNeg), .int (xs (4 : Int32).toNatClampNeg)]) (rest := []) ⟨hx, hb, hml, hown, hts⟩ (k_aligned l dC dI H.size xh0 (xs (1 : Int32).toNatClampNeg) (xs (2 : Int32).toNatClampNeg) (xs (3 : Int32).toNatClampNeg) (xs (4 : Int32).toNatClampNeg) xsl xwalker_ xrd xmachine_ xtrial_ xdk xcT xfT xlenses_ xtp xnames_ xquoted_ xlinks_ xwalker2_ hf0) (cwV 4 hts gcase_16_85 rfl rfl rfl (by decide +kernel) ⟨Nat.le_of_ble_eq_true rfl, Nat.le_of_ble_eq_true rfl⟩) ⟨fun a U g mk q => by obtain ⟨q0, q1, qP, qK, qD⟩ := q; exact ⟨q0, q1, qP, va_K.moved (u := U) (U := U.calling g mk a) (Vm.Alike.refl U.vm) qK, qD⟩, va_recv hK hP (ci := 11) (q0 := 0) rfl rfl, fun U hU hW => ⟨rfl, by rw [hU], by rw [hU]; exact hPc, va_K.moved hW.alike hKc, hDc.weaken (fun _ _ _ _ => trivial)⟩⟩ rfl rfl hl.1 rfl (lv_room (Nat.le_of_ble_eq_true rfl)) dL_law_816 ⟨Nat.le_of_ble_eq_true rfl, Nat.le_of_ble_eq_true rfl⟩) hS (fun q _ h => hFc q h) hFc (fun r_6 u t H1 locs ht hvm hw hB hz1 hk1 hS => ?_)
  obtain ⟨hP1, hK1, hD1⟩ := hB
  rw [ht] at hP1
  try dsimp only at hw
  obtain ⟨hP, hD⟩ := va_join (wr := [(mh0, .inr (12, [.int 0, .ref ma1, .ref ma2, .ref ma3, .ref ma4, .ref ma5, .int 0, .ref ma7, .ref ma8, .int 0, .ref ma10, .ref ma11, .ref ma12, .ref ma13, .int 0, .ref ma15, .ref ma16, .ref ma17, .ref ma18, .ref ma19, .ref ma20, .ref ma21, .ref ma22, .int 0, .ref ma24, .int 0, .ref ma26, .ref ma27, .int 0, .ref ma29, .ref ma30, .ref ma31, .ref ma32, .ref ma33, .int 0, .ref ma35, .ref ma36, .int 0, .ref ma38, .int 0, .int 0, .int 0, .int 0, .int 0, .long 0, .int 0, .int 0, .int (-1), .int (-1), .int 0, .ref ma50, .ref ma51, .int 0, .int 0, .ref ma54, .ref ma55, .int (-1), .ref ma57, .ref ma58, .ref ma59, .ref ma60, .int 0, .int 0, .int 0, .ref ma64]))]) (w1 := []) hP hD [0, 1, 2] [3] rfl rfl (by decide) (by decide) hk1 hFc hP1 hD1
  clear hk1 hz1 hPc hDc hFc hP1 hD1 hK1 hKc
  generalize H1 = H at hP hS ⊢
  have hP : va_P (dC, dI) cls [(mh0, .inr (12, [.int 0, .ref ma1, .ref ma2, .ref ma3, .ref ma4, .ref ma5, .int 0, .ref ma7, .ref ma8, .int 0, .ref ma10, .ref ma11, .ref ma12, .ref ma13, .int 0, .ref ma15, .ref ma16, .ref ma17, .ref ma18, .ref ma19, .ref ma20, .ref ma21, .ref ma22, .int 0, .ref ma24, .int 0, .ref ma26, .ref ma27, .int 0, .ref ma29, .ref ma30, .ref ma31, .ref ma32, .ref ma33, .int 0, .ref ma35, .ref ma36, .int 0, .ref ma38, .int 0, .int 0, .int 0, .int 0, .int 0, .long 0, .int 0, .int 0, .int (-1), .int (-1), .int 0, .ref ma50, .ref ma51, .int 0, .int 0, .ref ma54, .ref ma55, .int (-1), .ref ma57, .ref ma58, .ref ma59, .ref ma60, .int 0, .int 0, .int 0, .ref ma64]))] H := hP
  have hD : va_D (fun q : Nat => s.heap.size ≤ q) [(mh0, .inr (12, [.int 0, .ref ma1, .ref ma2, .ref ma3, .ref ma4, .ref ma5, .int 0, .ref ma7, .ref ma8, .int 0, .ref ma10, .ref ma11, .ref ma12, .ref ma13, .int 0, .ref ma15, .ref ma16, .ref ma17, .ref ma18, .ref ma19, .ref ma20, .ref ma21, .ref ma22, .int 0, .ref ma24, .int 0, .ref ma26, .ref ma27, .int 0, .ref ma29, .ref ma30, .ref ma31, .ref ma32, .ref ma33, .int 0, .ref ma35, .ref ma36, .int 0, .ref ma38, .int 0, .int 0, .int 0, .int 0, .int 0, .long 0, .int 0, .int 0, .int (-1), .int (-1), .int 0, .ref ma50, .ref ma51, .int 0, .int 0, .ref ma54, .ref ma55, .int (-1), .ref ma57, .ref ma58, .ref ma59, .ref ma60, .int 0, .int 0, .int 0, .ref ma64]))] := hD
  obtain rfl := hw
  refine lv_aload_n hx hb dL_law_819 rfl (lv_at hl 1 rfl) ?_
  refine lv_aload_n hx hb dL_law_820 rfl (lv_at hl 3 rfl) ?_
  refine lv_iload_n hx hb dL_law_821 rfl (lv_at hl 0 rfl) ?_
  refine lv_iconst (v := 1) hx hb dL_law_822 (by decide) ?_
  refine lv_iadd hx hb dL_law_823 ?_
  refine lv_topi (fun z_7 ez_7 => ?_)
  obtain rfl : z_7 = (1 : Int32) := ez_7.trans (by decide)
  refine va_sld hx hb hX hbl hbA hS (by unfold vp_in; decide) dL_law_824 ?_
  refine lv_aload_n hx hb dL_law_825 rfl (lv_at hl 3 rfl) ?_
  refine lv_iload_n hx hb dL_law_826 rfl (lv_at hl 0 rfl) ?_
  refine lv_iconst (v := 2) hx hb dL_law_827 (by decide) ?_
  refine lv_iadd hx hb dL_law_828 ?_
  refine lv_topi (fun z_8 ez_8 => ?_)
  obtain rfl : z_8 = (2 : Int32) := ez_8.trans (by decide)
  refine va_sld hx hb hX hbl hbA hS (by unfold vp_in; decide) dL_law_829 ?_
  refine lv_aload_n hx hb dL_law_830 rfl (lv_at hl 3 rfl) ?_
  refine lv_iload_n hx hb dL_law_831 rfl (lv_at hl 0 rfl) ?_
  refine lv_iconst (v := 3) hx hb dL_law_832 (by decide) ?_
  refine lv_iadd hx hb dL_law_833 ?_
  refine lv_topi (fun z_9 ez_9 => ?_)
  obtain rfl : z_9 = (3 : Int32) := ez_9.trans (by decide)
  refine va_sld hx hb hX hbl hbA hS (by unfold vp_in; decide) dL_law_834 ?_
  refine lv_aload_n hx hb dL_law_835 rfl (lv_at hl 3 rfl) ?_
  refine lv_iload_n hx hb dL_law_836 rfl (lv_at hl 0 rfl) ?_
  refine lv_iconst (v := 4) hx hb dL_law_837 (by decide) ?_
  refine lv_iadd hx hb dL_law_838 ?_
  refine lv_topi (fun z_10 ez_10 => ?_)
  obtain rfl : z_10 = (4 : Int32) := ez_10.trans (by decide)
  refine va_sld hx hb hX hbl hbA hS (by unfold vp_in; decide) dL_law_839 ?_
  have hPc := hP.sub (ws' := [(mh0, .inr (12, [.int 0, .ref ma1, .ref ma2, .ref ma3, .ref ma4, .ref ma5, .int 0, .ref ma7, .ref ma8, .int 0, .ref ma10, .ref ma11, .ref ma12, .ref ma13, .int 0, .ref ma15, .ref ma16, .ref ma17, .ref ma18, .ref ma19, .ref ma20, .ref ma21, .ref ma22, .int 0, .ref ma24, .int 0, .ref ma26, .ref ma27, .int 0, .ref ma29, .ref ma30, .ref ma31, .ref ma32, .ref ma33, .int 0, .ref ma35, .ref ma36, .int 0, .ref ma38, .int 0, .int 0, .int 0, .int 0, .int 0, .long 0, .int 0, .int 0, .int (-1), .int (-1), .int 0, .ref ma50, .ref ma51, .int 0, .int 0, .ref ma54, .ref ma55, .int (-1), .ref ma57, .ref ma58, .ref ma59, .ref ma60, .int 0, .int 0, .int 0, .ref ma64]))]) [0] rfl
  have hDc := hD.sub (ws' := [(mh0, .inr (12, [.int 0, .ref ma1, .ref ma2, .ref ma3, .ref ma4, .ref ma5, .int 0, .ref ma7, .ref ma8, .int 0, .ref ma10, .ref ma11, .ref ma12, .ref ma13, .int 0, .ref ma15, .ref ma16, .ref ma17, .ref ma18, .ref ma19, .ref ma20, .ref ma21, .ref ma22, .int 0, .ref ma24, .int 0, .ref ma26, .ref ma27, .int 0, .ref ma29, .ref ma30, .ref ma31, .ref ma32, .ref ma33, .int 0, .ref ma35, .ref ma36, .int 0, .ref ma38, .int 0, .int 0, .int 0, .int 0, .int 0, .long 0, .int 0, .int 0, .int (-1), .int (-1), .int 0, .ref ma50, .ref ma51, .int 0, .int 0, .ref ma54, .ref ma55, .int (-1), .ref ma57, .ref ma58, .ref ma59, .ref ma60, .int 0, .int 0, .int 0, .ref ma64]))]) [0] (by decide) rfl
  have hKc := hK.sub (tys' := []) [] rfl
  have hFc := va_free (wc := [(mh0, .inr (12, [.int 0, .ref ma1, .ref ma2, .ref ma3, .ref ma4, .ref ma5, .int 0, .ref ma7, .ref ma8, .int 0, .ref ma10, .ref ma11, .ref ma12, .ref ma13, .int 0, .ref ma15, .ref ma16, .ref ma17, .ref ma18, .ref ma19, .ref ma20, .ref ma21, .ref ma22, .int 0, .ref ma24, .int 0, .ref ma26, .ref ma27, .int 0, .ref ma29, .ref ma30, .ref ma31, .ref ma32, .ref ma33, .int 0, .ref ma35, .ref ma36, .int 0, .ref ma38, .int 0, .int 0, .int 0, .int 0, .int 0, .long 0, .int 0, .int 0, .int (-1), .int (-1), .int 0, .ref ma50, .ref ma51, .int 0, .int 0, .ref ma54, .ref ma55, .int (-1), .ref ma57, .ref ma58, .ref ma59, .ref ma60, .int 0, .int 0, .int 0, .ref ma64]))]) hD hS hA [0] rfl
  refine va_calli (va_runV (As := [.int (xs (1 : Int32).toNatClampNeg), .int (xs (2 : Int32).toNatClampNeg), .int (xs (3 : Int32).toNatClampNeg), .int (xs (4 : Int32).toNatClampNeg)]) (rest := [.int (-1)]) ⟨hx, hb, hml, hown, hts⟩ (m_aligned l dC dI H.size mh0 (xs (1 : Int32).toNatClampNeg) (xs (2 : Int32).toNatClampNeg) (xs (3 : Int32).toNatClampNeg) (xs (4 : Int32).toNatClampNeg) ma1 ma2 ma3 ma4 ma5 ma7 ma8 ma10 ma11 ma12 ma13 ma15 ma16 ma17 ma18 ma19 ma20 ma21 ma22 ma24 ma26 ma27 ma29 ma30 ma31 ma32 ma33 ma35 ma36 ma38 ma50 ma51 ma54 ma55 ma57 ma58 ma59 ma60 ma64) (cwV 4 hts gcase_16_88 rfl rfl rfl (by decide +kernel) ⟨Nat.le_of_ble_eq_true rfl, Nat.le_of_ble_eq_true rfl⟩) ⟨fun a U g mk q => by obtain ⟨q0, q1, qP, qK, qD⟩ := q; exact ⟨q0, q1, qP, va_K.moved (u := U) (U := U.calling g mk a) (Vm.Alike.refl U.vm) qK, qD⟩, va_recv hK hP (ci := 12) (q0 := 0) rfl rfl, fun U hU hW => ⟨rfl, by rw [hU], by rw [hU]; exact hPc, va_K.moved hW.alike hKc, hDc.weaken (fun _ _ _ _ => trivial)⟩⟩ rfl rfl hl.1 rfl (lv_room (Nat.le_of_ble_eq_true rfl)) dL_law_840 ⟨Nat.le_of_ble_eq_true rfl, Nat.le_of_ble_eq_true rfl⟩) hS (fun q _ h => hFc q h) hFc (fun r_12 u t H1 locs ht hvm hw hB hz1 hk1 hS => ?_)
  obtain ⟨hP1, hK1, hD1⟩ := hB
  rw [ht] at hP1
  try dsimp only at hw
  obtain ⟨hP, hD⟩ := va_join (wr := []) (w1 := []) hP hD [0] [] rfl rfl (by decide) (by decide) hk1 hFc hP1 hD1
  clear hk1 hz1 hPc hDc hFc hP1 hD1 hK1 hKc
  generalize H1 = H at hP hS ⊢
  have hP : va_P (dC, dI) cls [] H := hP
  have hD : va_D (fun q : Nat => s.heap.size ≤ q) [] := hD
  obtain rfl := hw
  refine lv_icmp_eq (tgt := 1218) hx hb dL_law_843 (by decide) (fun c_13 => ?_) (fun c_13 => ?_)
  rotate_left
  · exact (by revert c_13; decide : False).elim
  exact law_tail l C0 hS (Nat.le_of_ble_eq_true rfl) (Nat.le_of_ble_eq_true rfl) (lv_sub hl [3, 0] rfl)
theorem gcase_17_89g : GoodIn lwS wk_key := goodIn_r _ [470, 365, 366, 367, 202, 368, 190, 369, 448, 449, 450, 320, 321, 322, 323, 324, 57, 58, 59, 60, 61, 62, 63, 64, 65, 66, 67, 68, 69, 70, 118, 119, 120, 121, 122, 123] (by decide +kernel) (by decide +kernel)
theorem gcase_17_89 : GoodIn lwS (wsV RL 89 RX11 yX11_key wk_key) := goodIn_app (goodIn_r _ [471, 472, 473, 202] (by decide +kernel) (by decide +kernel)) gcase_17_89g
theorem gcase_17_92g : GoodIn lwS wm_key := goodIn_r _ [474, 204, 455, 456, 457, 210, 458, 374, 375, 376, 377, 292, 216, 217, 218, 219, 124, 125, 126, 127, 128, 129, 130, 131, 132, 133, 134, 135, 136, 137, 138, 139, 140, 141, 142, 143, 144, 145, 146, 147, 148, 149, 150, 151, 152, 153, 154, 155, 156, 157, 158, 159, 160, 161, 162, 163, 164, 165, 166, 167, 168, 169, 170, 171, 172, 173, 174, 175, 176, 177, 178, 179, 180, 181, 182, 183, 184, 185, 186, 187, 188] (by decide +kernel) (by decide +kernel)
theorem gcase_17_92 : GoodIn lwS (wsV RL 92 RX12 yX12_key wm_key) := goodIn_app (goodIn_r _ [475, 476, 477, 210] (by decide +kernel) (by decide +kernel)) gcase_17_92g
set_option maxHeartbeats 4000000 in
set_option maxRecDepth 100000 in
theorem case_17 {p : Program} {e : Env} {s : State} {m : MethodId} {below : List Frame} {meth : Method} {c : Code} (l : Launch) {b : Nat} {xs : Nat → Int32} (C0 : lw_At p s m meth c b 6 xs) (dC : Nat → ClassId) (dI : Nat → Nat → Nat) (mh0 : Nat) (xh0 : Nat) (xsl : Nat) (xwalker_ : Nat) (xrd : Nat) (xmachine_ : Nat) (xtrial_ : Nat) (xdk : Nat) (xcT : ClassId) (xfT : Nat → Option Nat) (xlenses_ : Nat) (xtp : Nat) (xnames_ : Nat) (xquoted_ : Nat) (xlinks_ : Nat) (xwalker2_ : Nat) (ma1 : Nat) (ma2 : Nat) (ma3 : Nat) (ma4 : Nat) (ma5 : Nat) (ma7 : Nat) (ma8 : Nat) (ma10 : Nat) (ma11 : Nat) (ma12 : Nat) (ma13 : Nat) (ma15 : Nat) (ma16 : Nat) (ma17 : Nat) (ma18 : Nat) (ma19 : Nat) (ma20 : Nat) (ma21 : Nat) (ma22 : Nat) (ma24 : Nat) (ma26 : Nat) (ma27 : Nat) (ma29 : Nat) (ma30 : Nat) (ma31 : Nat) (ma32 : Nat) (ma33 : Nat) (ma35 : Nat) (ma36 : Nat) (ma38 : Nat) (ma50 : Nat) (ma51 : Nat) (ma54 : Nat) (ma55 : Nat) (ma57 : Nat) (ma58 : Nat) (ma59 : Nat) (ma60 : Nat) (ma64 : Nat) (hf0 : ∀ i : Int32, inS i → ∃ t, xfT i.toNatClampNeg = some t) {H : Heap} {locs : List Loc} {ls : Array Slot} (hK : va_K (dC, dI) cls [(xcT, .object RX6)] s) (hP : va_P (dC, dI) cls [(xh0, .inr (11, [.ref xsl, .ref xwalker_, .ref xrd, .ref xmachine_, .ref xtrial_, .ref xdk])), (xsl, .inl (xcT, 8, .inr (.inr (.inr (.inr xfT))))), (xrd, .inr (4, [.ref xlenses_, .int 0, .int 0, .int 0, .int (-1), .int (-1), .ref xtp, .ref xnames_, .ref xquoted_, .ref xlinks_, .ref xwalker2_, .int 0, .int 0, .int 0])), (mh0, .inr (12, [.int 0, .ref ma1, .ref ma2, .ref ma3, .ref ma4, .ref ma5, .int 0, .ref ma7, .ref ma8, .int 0, .ref ma10, .ref ma11, .ref ma12, .ref ma13, .int 0, .ref ma15, .ref ma16, .ref ma17, .ref ma18, .ref ma19, .ref ma20, .ref ma21, .ref ma22, .int 0, .ref ma24, .int 0, .ref ma26, .ref ma27, .int 0, .ref ma29, .ref ma30, .ref ma31, .ref ma32, .ref ma33, .int 0, .ref ma35, .ref ma36, .int 0, .ref ma38, .int 0, .int 0, .int 0, .int 0, .int 0, .long 0, .int 0, .int 0, .int (-1), .int (-1), .int 0, .ref ma50, .ref ma51, .int 0, .int 0, .ref ma54, .ref ma55, .int (-1), .ref ma57, .ref ma58, .ref ma59, .ref ma60, .int 0, .int 0, .int 0, .ref ma64]))] H) (hD : va_D (fun q : Nat => s.heap.size ≤ q) [(xh0, .inr (11, [.ref xsl, .ref xwalker_, .ref xrd, .ref xmachine_, .ref xtrial_, .ref xdk])), (xsl, .inl (xcT, 8, .inr (.inr (.inr (.inr xfT))))), (xrd, .inr (4, [.ref xlenses_, .int 0, .int 0, .int 0, .int (-1), .int (-1), .ref xtp, .ref xnames_, .ref xquoted_, .ref xlinks_, .ref xwalker2_, .int 0, .int 0, .int 0])), (mh0, .inr (12, [.int 0, .ref ma1, .ref ma2, .ref ma3, .ref ma4, .ref ma5, .int 0, .ref ma7, .ref ma8, .int 0, .ref ma10, .ref ma11, .ref ma12, .ref ma13, .int 0, .ref ma15, .ref ma16, .ref ma17, .ref ma18, .ref ma19, .ref ma20, .ref ma21, .ref ma22, .int 0, .ref ma24, .int 0, .ref ma26, .ref ma27, .int 0, .ref ma29, .ref ma30, .ref ma31, .ref ma32, .ref ma33, .int 0, .ref ma35, .ref ma36, .int 0, .ref ma38, .int 0, .int 0, .int 0, .int 0, .int 0, .long 0, .int 0, .int 0, .int (-1), .int (-1), .int 0, .ref ma50, .ref ma51, .int 0, .int 0, .ref ma54, .ref ma55, .int (-1), .ref ma57, .ref ma58, .ref ma59, .ref ma60, .int 0, .int 0, .int 0, .ref ma64]))]) (hS : va_S (fun q : Nat => s.heap.size ≤ q) s.heap H locs) (hl : lv_has ls 4 [(3, .int 0), (2, .ref mh0), (1, .ref xh0), (0, .ref b)]) : W p l e room_1 s m #[Value.ref b] below meth c H locs 185 1243858 (lw_Z below #[Value.ref b] s) (F0 m 848 ls []) := by
  obtain ⟨hx, hb, hr, hml, hown0, hts0, hX, hbl, hlocks, hgv⟩ := id C0
  have hown : s.vm.findClass RL = some m.cls := hown0
  have hts : ∀ w ∈ lwS, w.before #[Value.ref b] s = true := fun w h => hts0 w (wsL_law_in w h)
  have hA : ∀ q : Nat, s.heap.size ≤ q → (fun q : Nat => s.heap.size ≤ q) q := fun _ h => h
  have hbA : ¬ (fun q : Nat => s.heap.size ≤ q) b := Nat.not_le.mpr hbl
  refine lv_aload_n hx hb dL_law_848 rfl (lv_at hl 2 rfl) ?_
  refine lv_aload_n hx hb dL_law_849 rfl (lv_at hl 3 rfl) ?_
  refine lv_iload_n hx hb dL_law_850 rfl (lv_at hl 0 rfl) ?_
  refine lv_iconst (v := 1) hx hb dL_law_851 (by decide) ?_
  refine lv_iadd hx hb dL_law_852 ?_
  refine lv_topi (fun z_1 ez_1 => ?_)
  obtain rfl : z_1 = (1 : Int32) := ez_1.trans (by decide)
  refine va_sld hx hb hX hbl hbA hS (by unfold vp_in; decide) dL_law_853 ?_
  refine lv_aload_n hx hb dL_law_854 rfl (lv_at hl 3 rfl) ?_
  refine lv_iload_n hx hb dL_law_855 rfl (lv_at hl 0 rfl) ?_
  refine lv_iconst (v := 2) hx hb dL_law_856 (by decide) ?_
  refine lv_iadd hx hb dL_law_857 ?_
  refine lv_topi (fun z_2 ez_2 => ?_)
  obtain rfl : z_2 = (2 : Int32) := ez_2.trans (by decide)
  refine va_sld hx hb hX hbl hbA hS (by unfold vp_in; decide) dL_law_858 ?_
  refine lv_aload_n hx hb dL_law_859 rfl (lv_at hl 3 rfl) ?_
  refine lv_iload_n hx hb dL_law_860 rfl (lv_at hl 0 rfl) ?_
  refine lv_iconst (v := 3) hx hb dL_law_861 (by decide) ?_
  refine lv_iadd hx hb dL_law_862 ?_
  refine lv_topi (fun z_3 ez_3 => ?_)
  obtain rfl : z_3 = (3 : Int32) := ez_3.trans (by decide)
  refine va_sld hx hb hX hbl hbA hS (by unfold vp_in; decide) dL_law_863 ?_
  refine lv_aload_n hx hb dL_law_864 rfl (lv_at hl 3 rfl) ?_
  refine lv_iload_n hx hb dL_law_865 rfl (lv_at hl 0 rfl) ?_
  refine lv_iconst (v := 4) hx hb dL_law_866 (by decide) ?_
  refine lv_iadd hx hb dL_law_867 ?_
  refine lv_topi (fun z_4 ez_4 => ?_)
  obtain rfl : z_4 = (4 : Int32) := ez_4.trans (by decide)
  refine va_sld hx hb hX hbl hbA hS (by unfold vp_in; decide) dL_law_868 ?_
  have hPc := hP.sub (ws' := [(xh0, .inr (11, [.ref xsl, .ref xwalker_, .ref xrd, .ref xmachine_, .ref xtrial_, .ref xdk])), (xsl, .inl (xcT, 8, .inr (.inr (.inr (.inr xfT))))), (xrd, .inr (4, [.ref xlenses_, .int 0, .int 0, .int 0, .int (-1), .int (-1), .ref xtp, .ref xnames_, .ref xquoted_, .ref xlinks_, .ref xwalker2_, .int 0, .int 0, .int 0]))]) [0, 1, 2] rfl
  have hDc := hD.sub (ws' := [(xh0, .inr (11, [.ref xsl, .ref xwalker_, .ref xrd, .ref xmachine_, .ref xtrial_, .ref xdk])), (xsl, .inl (xcT, 8, .inr (.inr (.inr (.inr xfT))))), (xrd, .inr (4, [.ref xlenses_, .int 0, .int 0, .int 0, .int (-1), .int (-1), .ref xtp, .ref xnames_, .ref xquoted_, .ref xlinks_, .ref xwalker2_, .int 0, .int 0, .int 0]))]) [0, 1, 2] (by decide) rfl
  have hKc := hK.sub (tys' := [(xcT, .object RX6)]) [0] rfl
  have hFc := va_free (wc := [(xh0, .inr (11, [.ref xsl, .ref xwalker_, .ref xrd, .ref xmachine_, .ref xtrial_, .ref xdk])), (xsl, .inl (xcT, 8, .inr (.inr (.inr (.inr xfT))))), (xrd, .inr (4, [.ref xlenses_, .int 0, .int 0, .int 0, .int (-1), .int (-1), .ref xtp, .ref xnames_, .ref xquoted_, .ref xlinks_, .ref xwalker2_, .int 0, .int 0, .int 0]))]) hD hS hA [0, 1, 2] rfl
  refine va_calli (va_runV (As := [.int (xs (1 : Int32).toNatClampNeg), .int (xs (2 : Int32).toNatClampNeg), .int (xs (3 : Int32).toNatClampNeg), .int (xs (4 : Int32).toNatClampNeg)]) (rest := []) ⟨hx, hb, hml, hown, hts⟩ (k_key l dC dI H.size xh0 (xs (1 : Int32).toNatClampNeg) (xs (2 : Int32).toNatClampNeg) (xs (3 : Int32).toNatClampNeg) (xs (4 : Int32).toNatClampNeg) xsl xwalker_ xrd xmachine_ xtrial_ xdk xcT xfT xlenses_ xtp xnames_ xquoted_ xlinks_ xwalker2_ hf0) (cwV 4 hts gcase_17_89 rfl rfl rfl (by decide +kernel) ⟨Nat.le_of_ble_eq_true rfl, Nat.le_of_ble_eq_true rfl⟩) ⟨fun a U g mk q => by obtain ⟨q0, q1, qP, qK, qD⟩ := q; exact ⟨q0, q1, qP, va_K.moved (u := U) (U := U.calling g mk a) (Vm.Alike.refl U.vm) qK, qD⟩, va_recv hK hP (ci := 11) (q0 := 0) rfl rfl, fun U hU hW => ⟨rfl, by rw [hU], by rw [hU]; exact hPc, va_K.moved hW.alike hKc, hDc.weaken (fun _ _ _ _ => trivial)⟩⟩ rfl rfl hl.1 rfl (lv_room (Nat.le_of_ble_eq_true rfl)) dL_law_869 ⟨Nat.le_of_ble_eq_true rfl, Nat.le_of_ble_eq_true rfl⟩) hS (fun q _ h => hFc q h) hFc (fun r_6 u t H1 locs ht hvm hw hB hz1 hk1 hS => ?_)
  obtain ⟨hP1, hK1, hD1⟩ := hB
  rw [ht] at hP1
  try dsimp only at hw
  obtain ⟨hP, hD⟩ := va_join (wr := [(mh0, .inr (12, [.int 0, .ref ma1, .ref ma2, .ref ma3, .ref ma4, .ref ma5, .int 0, .ref ma7, .ref ma8, .int 0, .ref ma10, .ref ma11, .ref ma12, .ref ma13, .int 0, .ref ma15, .ref ma16, .ref ma17, .ref ma18, .ref ma19, .ref ma20, .ref ma21, .ref ma22, .int 0, .ref ma24, .int 0, .ref ma26, .ref ma27, .int 0, .ref ma29, .ref ma30, .ref ma31, .ref ma32, .ref ma33, .int 0, .ref ma35, .ref ma36, .int 0, .ref ma38, .int 0, .int 0, .int 0, .int 0, .int 0, .long 0, .int 0, .int 0, .int (-1), .int (-1), .int 0, .ref ma50, .ref ma51, .int 0, .int 0, .ref ma54, .ref ma55, .int (-1), .ref ma57, .ref ma58, .ref ma59, .ref ma60, .int 0, .int 0, .int 0, .ref ma64]))]) (w1 := []) hP hD [0, 1, 2] [3] rfl rfl (by decide) (by decide) hk1 hFc hP1 hD1
  clear hk1 hz1 hPc hDc hFc hP1 hD1 hK1 hKc
  generalize H1 = H at hP hS ⊢
  have hP : va_P (dC, dI) cls [(mh0, .inr (12, [.int 0, .ref ma1, .ref ma2, .ref ma3, .ref ma4, .ref ma5, .int 0, .ref ma7, .ref ma8, .int 0, .ref ma10, .ref ma11, .ref ma12, .ref ma13, .int 0, .ref ma15, .ref ma16, .ref ma17, .ref ma18, .ref ma19, .ref ma20, .ref ma21, .ref ma22, .int 0, .ref ma24, .int 0, .ref ma26, .ref ma27, .int 0, .ref ma29, .ref ma30, .ref ma31, .ref ma32, .ref ma33, .int 0, .ref ma35, .ref ma36, .int 0, .ref ma38, .int 0, .int 0, .int 0, .int 0, .int 0, .long 0, .int 0, .int 0, .int (-1), .int (-1), .int 0, .ref ma50, .ref ma51, .int 0, .int 0, .ref ma54, .ref ma55, .int (-1), .ref ma57, .ref ma58, .ref ma59, .ref ma60, .int 0, .int 0, .int 0, .ref ma64]))] H := hP
  have hD : va_D (fun q : Nat => s.heap.size ≤ q) [(mh0, .inr (12, [.int 0, .ref ma1, .ref ma2, .ref ma3, .ref ma4, .ref ma5, .int 0, .ref ma7, .ref ma8, .int 0, .ref ma10, .ref ma11, .ref ma12, .ref ma13, .int 0, .ref ma15, .ref ma16, .ref ma17, .ref ma18, .ref ma19, .ref ma20, .ref ma21, .ref ma22, .int 0, .ref ma24, .int 0, .ref ma26, .ref ma27, .int 0, .ref ma29, .ref ma30, .ref ma31, .ref ma32, .ref ma33, .int 0, .ref ma35, .ref ma36, .int 0, .ref ma38, .int 0, .int 0, .int 0, .int 0, .int 0, .long 0, .int 0, .int 0, .int (-1), .int (-1), .int 0, .ref ma50, .ref ma51, .int 0, .int 0, .ref ma54, .ref ma55, .int (-1), .ref ma57, .ref ma58, .ref ma59, .ref ma60, .int 0, .int 0, .int 0, .ref ma64]))] := hD
  obtain rfl := hw
  refine lv_aload_n hx hb dL_law_872 rfl (lv_at hl 1 rfl) ?_
  refine lv_aload_n hx hb dL_law_873 rfl (lv_at hl 3 rfl) ?_
  refine lv_iload_n hx hb dL_law_874 rfl (lv_at hl 0 rfl) ?_
  refine lv_iconst (v := 1) hx hb dL_law_875 (by decide) ?_
  refine lv_iadd hx hb dL_law_876 ?_
  refine lv_topi (fun z_7 ez_7 => ?_)
  obtain rfl : z_7 = (1 : Int32) := ez_7.trans (by decide)
  refine va_sld hx hb hX hbl hbA hS (by unfold vp_in; decide) dL_law_877 ?_
  refine lv_aload_n hx hb dL_law_878 rfl (lv_at hl 3 rfl) ?_
  refine lv_iload_n hx hb dL_law_879 rfl (lv_at hl 0 rfl) ?_
  refine lv_iconst (v := 2) hx hb dL_law_880 (by decide) ?_
  refine lv_iadd hx hb dL_law_881 ?_
  refine lv_topi (fun z_8 ez_8 => ?_)
  obtain rfl : z_8 = (2 : Int32) := ez_8.trans (by decide)
  refine va_sld hx hb hX hbl hbA hS (by unfold vp_in; decide) dL_law_882 ?_
  refine lv_aload_n hx hb dL_law_883 rfl (lv_at hl 3 rfl) ?_
  refine lv_iload_n hx hb dL_law_884 rfl (lv_at hl 0 rfl) ?_
  refine lv_iconst (v := 3) hx hb dL_law_885 (by decide) ?_
  refine lv_iadd hx hb dL_law_886 ?_
  refine lv_topi (fun z_9 ez_9 => ?_)
  obtain rfl : z_9 = (3 : Int32) := ez_9.trans (by decide)
  refine va_sld hx hb hX hbl hbA hS (by unfold vp_in; decide) dL_law_887 ?_
  refine lv_aload_n hx hb dL_law_888 rfl (lv_at hl 3 rfl) ?_
  refine lv_iload_n hx hb dL_law_889 rfl (lv_at hl 0 rfl) ?_
  refine lv_iconst (v := 4) hx hb dL_law_890 (by decide) ?_
  refine lv_iadd hx hb dL_law_891 ?_
  refine lv_topi (fun z_10 ez_10 => ?_)
  obtain rfl : z_10 = (4 : Int32) := ez_10.trans (by decide)
  refine va_sld hx hb hX hbl hbA hS (by unfold vp_in; decide) dL_law_892 ?_
  have hPc := hP.sub (ws' := [(mh0, .inr (12, [.int 0, .ref ma1, .ref ma2, .ref ma3, .ref ma4, .ref ma5, .int 0, .ref ma7, .ref ma8, .int 0, .ref ma10, .ref ma11, .ref ma12, .ref ma13, .int 0, .ref ma15, .ref ma16, .ref ma17, .ref ma18, .ref ma19, .ref ma20, .ref ma21, .ref ma22, .int 0, .ref ma24, .int 0, .ref ma26, .ref ma27, .int 0, .ref ma29, .ref ma30, .ref ma31, .ref ma32, .ref ma33, .int 0, .ref ma35, .ref ma36, .int 0, .ref ma38, .int 0, .int 0, .int 0, .int 0, .int 0, .long 0, .int 0, .int 0, .int (-1), .int (-1), .int 0, .ref ma50, .ref ma51, .int 0, .int 0, .ref ma54, .ref ma55, .int (-1), .ref ma57, .ref ma58, .ref ma59, .ref ma60, .int 0, .int 0, .int 0, .ref ma64]))]) [0] rfl
  have hDc := hD.sub (ws' := [(mh0, .inr (12, [.int 0, .ref ma1, .ref ma2, .ref ma3, .ref ma4, .ref ma5, .int 0, .ref ma7, .ref ma8, .int 0, .ref ma10, .ref ma11, .ref ma12, .ref ma13, .int 0, .ref ma15, .ref ma16, .ref ma17, .ref ma18, .ref ma19, .ref ma20, .ref ma21, .ref ma22, .int 0, .ref ma24, .int 0, .ref ma26, .ref ma27, .int 0, .ref ma29, .ref ma30, .ref ma31, .ref ma32, .ref ma33, .int 0, .ref ma35, .ref ma36, .int 0, .ref ma38, .int 0, .int 0, .int 0, .int 0, .int 0, .long 0, .int 0, .int 0, .int (-1), .int (-1), .int 0, .ref ma50, .ref ma51, .int 0, .int 0, .ref ma54, .ref ma55, .int (-1), .ref ma57, .ref ma58, .ref ma59, .ref ma60, .int 0, .int 0, .int 0, .ref ma64]))]) [0] (by decide) rfl
  have hKc := hK.sub (tys' := []) [] rfl
  have hFc := va_free (wc := [(mh0, .inr (12, [.int 0, .ref ma1, .ref ma2, .ref ma3, .ref ma4, .ref ma5, .int 0, .ref ma7, .ref ma8, .int 0, .ref ma10, .ref ma11, .ref ma12, .ref ma13, .int 0, .ref ma15, .ref ma16, .ref ma17, .ref ma18, .ref ma19, .ref ma20, .ref ma21, .ref ma22, .int 0, .ref ma24, .int 0, .ref ma26, .ref ma27, .int 0, .ref ma29, .ref ma30, .ref ma31, .ref ma32, .ref ma33, .int 0, .ref ma35, .ref ma36, .int 0, .ref ma38, .int 0, .int 0, .int 0, .int 0, .int 0, .long 0, .int 0, .int 0, .int (-1), .int (-1), .int 0, .ref ma50, .ref ma51, .int 0, .int 0, .ref ma54, .ref ma55, .int (-1), .ref ma57, .ref ma58, .ref ma59, .ref ma60, .int 0, .int 0, .int 0, .ref ma64]))]) hD hS hA [0] rfl
  refine va_calli (va_runV (As := [.int (xs (1 : Int32).toNatClampNeg), .int (xs (2 : Int32).toNatClampNeg), .int (xs (3 : Int32).toNatClampNeg), .int (xs (4 : Int32).toNatClampNeg)]) (rest := [.int (-1)]) ⟨hx, hb, hml, hown, hts⟩ (m_key l dC dI H.size mh0 (xs (1 : Int32).toNatClampNeg) (xs (2 : Int32).toNatClampNeg) (xs (3 : Int32).toNatClampNeg) (xs (4 : Int32).toNatClampNeg) ma1 ma2 ma3 ma4 ma5 ma7 ma8 ma10 ma11 ma12 ma13 ma15 ma16 ma17 ma18 ma19 ma20 ma21 ma22 ma24 ma26 ma27 ma29 ma30 ma31 ma32 ma33 ma35 ma36 ma38 ma50 ma51 ma54 ma55 ma57 ma58 ma59 ma60 ma64) (cwV 4 hts gcase_17_92 rfl rfl rfl (by decide +kernel) ⟨Nat.le_of_ble_eq_true rfl, Nat.le_of_ble_eq_true rfl⟩) ⟨fun a U g mk q => by obtain ⟨q0, q1, qP, qK, qD⟩ := q; exact ⟨q0, q1, qP, va_K.moved (u := U) (U := U.calling g mk a) (Vm.Alike.refl U.vm) qK, qD⟩, va_recv hK hP (ci := 12) (q0 := 0) rfl rfl, fun U hU hW => ⟨rfl, by rw [hU], by rw [hU]; exact hPc, va_K.moved hW.alike hKc, hDc.weaken (fun _ _ _ _ => trivial)⟩⟩ rfl rfl hl.1 rfl (lv_room (Nat.le_of_ble_eq_true rfl)) dL_law_893 ⟨Nat.le_of_ble_eq_true rfl, Nat.le_of_ble_eq_true rfl⟩) hS (fun q _ h => hFc q h) hFc (fun r_12 u t H1 locs ht hvm hw hB hz1 hk1 hS => ?_)
  obtain ⟨hP1, hK1, hD1⟩ := hB
  rw [ht] at hP1
  try dsimp only at hw
  obtain ⟨hP, hD⟩ := va_join (wr := []) (w1 := []) hP hD [0] [] rfl rfl (by decide) (by decide) hk1 hFc hP1 hD1
  clear hk1 hz1 hPc hDc hFc hP1 hD1 hK1 hKc
  generalize H1 = H at hP hS ⊢
  have hP : va_P (dC, dI) cls [] H := hP
  have hD : va_D (fun q : Nat => s.heap.size ≤ q) [] := hD
  obtain rfl := hw
  refine lv_icmp_eq (tgt := 1218) hx hb dL_law_896 (by decide) (fun c_13 => ?_) (fun c_13 => ?_)
  rotate_left
  · exact (by revert c_13; decide : False).elim
  exact law_tail l C0 hS (Nat.le_of_ble_eq_true rfl) (Nat.le_of_ble_eq_true rfl) (lv_sub hl [3, 0] rfl)
theorem gcase_18_93g : GoodIn lwS wk_laws := goodIn_r _ [478, 365, 366, 367, 202, 368, 190, 369, 57, 58, 59, 60, 61, 62, 63, 64, 65, 66, 67, 68, 69, 70, 118, 119, 120, 121, 122, 123] (by decide +kernel) (by decide +kernel)
theorem gcase_18_93 : GoodIn lwS (wsV RL 93 RX11 yX11_laws wk_laws) := goodIn_app (goodIn_r _ [479, 480, 481, 202] (by decide +kernel) (by decide +kernel)) gcase_18_93g
theorem gcase_18_96g : GoodIn lwS wm_laws := goodIn_r _ [482, 204, 374, 375, 376, 210, 377, 292, 216, 217, 218, 219, 124, 125, 126, 127, 128, 129, 130, 131, 132, 133, 134, 135, 136, 137, 138, 139, 140, 141, 142, 143, 144, 145, 146, 147, 148, 149, 150, 151, 152, 153, 154, 155, 156, 157, 158, 159, 160, 161, 162, 163, 164, 165, 166, 167, 168, 169, 170, 171, 172, 173, 174, 175, 176, 177, 178, 179, 180, 181, 182, 183, 184, 185, 186, 187, 188] (by decide +kernel) (by decide +kernel)
theorem gcase_18_96 : GoodIn lwS (wsV RL 96 RX12 yX12_laws wm_laws) := goodIn_app (goodIn_r _ [483, 484, 485, 210] (by decide +kernel) (by decide +kernel)) gcase_18_96g
set_option maxHeartbeats 4000000 in
set_option maxRecDepth 100000 in
theorem case_18 {p : Program} {e : Env} {s : State} {m : MethodId} {below : List Frame} {meth : Method} {c : Code} (l : Launch) {b : Nat} {xs : Nat → Int32} (C0 : lw_At p s m meth c b 6 xs) (dC : Nat → ClassId) (dI : Nat → Nat → Nat) (mh0 : Nat) (xh0 : Nat) (xsl : Nat) (xwalker_ : Nat) (xrd : Nat) (xmachine_ : Nat) (xtrial_ : Nat) (xdk : Nat) (xlenses_ : Nat) (xtp : Nat) (xnames_ : Nat) (xquoted_ : Nat) (xlinks_ : Nat) (xwalker2_ : Nat) (ma1 : Nat) (ma2 : Nat) (ma3 : Nat) (ma4 : Nat) (ma5 : Nat) (ma7 : Nat) (ma8 : Nat) (ma10 : Nat) (ma11 : Nat) (ma12 : Nat) (ma13 : Nat) (ma15 : Nat) (ma16 : Nat) (ma17 : Nat) (ma18 : Nat) (ma19 : Nat) (ma20 : Nat) (ma21 : Nat) (ma22 : Nat) (ma24 : Nat) (ma26 : Nat) (ma27 : Nat) (ma29 : Nat) (ma30 : Nat) (ma31 : Nat) (ma32 : Nat) (ma33 : Nat) (ma35 : Nat) (ma36 : Nat) (ma38 : Nat) (ma50 : Nat) (ma51 : Nat) (ma54 : Nat) (ma55 : Nat) (ma57 : Nat) (ma58 : Nat) (ma59 : Nat) (ma60 : Nat) (ma64 : Nat) {H : Heap} {locs : List Loc} {ls : Array Slot} (hK : va_K (dC, dI) cls [] s) (hP : va_P (dC, dI) cls [(xh0, .inr (11, [.ref xsl, .ref xwalker_, .ref xrd, .ref xmachine_, .ref xtrial_, .ref xdk])), (xrd, .inr (4, [.ref xlenses_, .int 0, .int 0, .int 0, .int (-1), .int (-1), .ref xtp, .ref xnames_, .ref xquoted_, .ref xlinks_, .ref xwalker2_, .int 0, .int 0, .int 0])), (mh0, .inr (12, [.int 0, .ref ma1, .ref ma2, .ref ma3, .ref ma4, .ref ma5, .int 0, .ref ma7, .ref ma8, .int 0, .ref ma10, .ref ma11, .ref ma12, .ref ma13, .int 0, .ref ma15, .ref ma16, .ref ma17, .ref ma18, .ref ma19, .ref ma20, .ref ma21, .ref ma22, .int 0, .ref ma24, .int 0, .ref ma26, .ref ma27, .int 0, .ref ma29, .ref ma30, .ref ma31, .ref ma32, .ref ma33, .int 0, .ref ma35, .ref ma36, .int 0, .ref ma38, .int 0, .int 0, .int 0, .int 0, .int 0, .long 0, .int 0, .int 0, .int (-1), .int (-1), .int 0, .ref ma50, .ref ma51, .int 0, .int 0, .ref ma54, .ref ma55, .int (-1), .ref ma57, .ref ma58, .ref ma59, .ref ma60, .int 0, .int 0, .int 0, .ref ma64]))] H) (hD : va_D (fun q : Nat => s.heap.size ≤ q) [(xh0, .inr (11, [.ref xsl, .ref xwalker_, .ref xrd, .ref xmachine_, .ref xtrial_, .ref xdk])), (xrd, .inr (4, [.ref xlenses_, .int 0, .int 0, .int 0, .int (-1), .int (-1), .ref xtp, .ref xnames_, .ref xquoted_, .ref xlinks_, .ref xwalker2_, .int 0, .int 0, .int 0])), (mh0, .inr (12, [.int 0, .ref ma1, .ref ma2, .ref ma3, .ref ma4, .ref ma5, .int 0, .ref ma7, .ref ma8, .int 0, .ref ma10, .ref ma11, .ref ma12, .ref ma13, .int 0, .ref ma15, .ref ma16, .ref ma17, .ref ma18, .ref ma19, .ref ma20, .ref ma21, .ref ma22, .int 0, .ref ma24, .int 0, .ref ma26, .ref ma27, .int 0, .ref ma29, .ref ma30, .ref ma31, .ref ma32, .ref ma33, .int 0, .ref ma35, .ref ma36, .int 0, .ref ma38, .int 0, .int 0, .int 0, .int 0, .int 0, .long 0, .int 0, .int 0, .int (-1), .int (-1), .int 0, .ref ma50, .ref ma51, .int 0, .int 0, .ref ma54, .ref ma55, .int (-1), .ref ma57, .ref ma58, .ref ma59, .ref ma60, .int 0, .int 0, .int 0, .ref ma64]))]) (hS : va_S (fun q : Nat => s.heap.size ≤ q) s.heap H locs) (hl : lv_has ls 4 [(3, .int 0), (2, .ref mh0), (1, .ref xh0), (0, .ref b)]) : W p l e room_1 s m #[Value.ref b] below meth c H locs 185 1243858 (lw_Z below #[Value.ref b] s) (F0 m 901 ls []) := by
  obtain ⟨hx, hb, hr, hml, hown0, hts0, hX, hbl, hlocks, hgv⟩ := id C0
  have hown : s.vm.findClass RL = some m.cls := hown0
  have hts : ∀ w ∈ lwS, w.before #[Value.ref b] s = true := fun w h => hts0 w (wsL_law_in w h)
  have hA : ∀ q : Nat, s.heap.size ≤ q → (fun q : Nat => s.heap.size ≤ q) q := fun _ h => h
  have hbA : ¬ (fun q : Nat => s.heap.size ≤ q) b := Nat.not_le.mpr hbl
  refine lv_aload_n hx hb dL_law_901 rfl (lv_at hl 2 rfl) ?_
  refine lv_aload_n hx hb dL_law_902 rfl (lv_at hl 3 rfl) ?_
  refine lv_iload_n hx hb dL_law_903 rfl (lv_at hl 0 rfl) ?_
  refine lv_iconst (v := 1) hx hb dL_law_904 (by decide) ?_
  refine lv_iadd hx hb dL_law_905 ?_
  refine lv_topi (fun z_1 ez_1 => ?_)
  obtain rfl : z_1 = (1 : Int32) := ez_1.trans (by decide)
  refine va_sld hx hb hX hbl hbA hS (by unfold vp_in; decide) dL_law_906 ?_
  refine lv_aload_n hx hb dL_law_907 rfl (lv_at hl 3 rfl) ?_
  refine lv_iload_n hx hb dL_law_908 rfl (lv_at hl 0 rfl) ?_
  refine lv_iconst (v := 2) hx hb dL_law_909 (by decide) ?_
  refine lv_iadd hx hb dL_law_910 ?_
  refine lv_topi (fun z_2 ez_2 => ?_)
  obtain rfl : z_2 = (2 : Int32) := ez_2.trans (by decide)
  refine va_sld hx hb hX hbl hbA hS (by unfold vp_in; decide) dL_law_911 ?_
  refine lv_aload_n hx hb dL_law_912 rfl (lv_at hl 3 rfl) ?_
  refine lv_iload_n hx hb dL_law_913 rfl (lv_at hl 0 rfl) ?_
  refine lv_iconst (v := 3) hx hb dL_law_914 (by decide) ?_
  refine lv_iadd hx hb dL_law_915 ?_
  refine lv_topi (fun z_3 ez_3 => ?_)
  obtain rfl : z_3 = (3 : Int32) := ez_3.trans (by decide)
  refine va_sld hx hb hX hbl hbA hS (by unfold vp_in; decide) dL_law_916 ?_
  have hPc := hP.sub (ws' := [(xh0, .inr (11, [.ref xsl, .ref xwalker_, .ref xrd, .ref xmachine_, .ref xtrial_, .ref xdk])), (xrd, .inr (4, [.ref xlenses_, .int 0, .int 0, .int 0, .int (-1), .int (-1), .ref xtp, .ref xnames_, .ref xquoted_, .ref xlinks_, .ref xwalker2_, .int 0, .int 0, .int 0]))]) [0, 1] rfl
  have hDc := hD.sub (ws' := [(xh0, .inr (11, [.ref xsl, .ref xwalker_, .ref xrd, .ref xmachine_, .ref xtrial_, .ref xdk])), (xrd, .inr (4, [.ref xlenses_, .int 0, .int 0, .int 0, .int (-1), .int (-1), .ref xtp, .ref xnames_, .ref xquoted_, .ref xlinks_, .ref xwalker2_, .int 0, .int 0, .int 0]))]) [0, 1] (by decide) rfl
  have hKc := hK.sub (tys' := []) [] rfl
  have hFc := va_free (wc := [(xh0, .inr (11, [.ref xsl, .ref xwalker_, .ref xrd, .ref xmachine_, .ref xtrial_, .ref xdk])), (xrd, .inr (4, [.ref xlenses_, .int 0, .int 0, .int 0, .int (-1), .int (-1), .ref xtp, .ref xnames_, .ref xquoted_, .ref xlinks_, .ref xwalker2_, .int 0, .int 0, .int 0]))]) hD hS hA [0, 1] rfl
  refine va_calli (va_runV (As := [.int (xs (1 : Int32).toNatClampNeg), .int (xs (2 : Int32).toNatClampNeg), .int (xs (3 : Int32).toNatClampNeg)]) (rest := []) ⟨hx, hb, hml, hown, hts⟩ (k_laws l dC dI H.size xh0 (xs (1 : Int32).toNatClampNeg) (xs (2 : Int32).toNatClampNeg) (xs (3 : Int32).toNatClampNeg) xsl xwalker_ xrd xmachine_ xtrial_ xdk xlenses_ xtp xnames_ xquoted_ xlinks_ xwalker2_) (cwV 3 hts gcase_18_93 rfl rfl rfl (by decide +kernel) ⟨Nat.le_of_ble_eq_true rfl, Nat.le_of_ble_eq_true rfl⟩) ⟨fun a U g mk q => by obtain ⟨q0, q1, qP, qK, qD⟩ := q; exact ⟨q0, q1, qP, va_K.moved (u := U) (U := U.calling g mk a) (Vm.Alike.refl U.vm) qK, qD⟩, va_recv hK hP (ci := 11) (q0 := 0) rfl rfl, fun U hU hW => ⟨rfl, by rw [hU], by rw [hU]; exact hPc, va_K.moved hW.alike hKc, hDc.weaken (fun _ _ _ _ => trivial)⟩⟩ rfl rfl hl.1 rfl (lv_room (Nat.le_of_ble_eq_true rfl)) dL_law_917 ⟨Nat.le_of_ble_eq_true rfl, Nat.le_of_ble_eq_true rfl⟩) hS (fun q _ h => hFc q h) hFc (fun r_5 u t H1 locs ht hvm hw hB hz1 hk1 hS => ?_)
  obtain ⟨hP1, hK1, hD1⟩ := hB
  rw [ht] at hP1
  try dsimp only at hw
  obtain ⟨hP, hD⟩ := va_join (wr := [(mh0, .inr (12, [.int 0, .ref ma1, .ref ma2, .ref ma3, .ref ma4, .ref ma5, .int 0, .ref ma7, .ref ma8, .int 0, .ref ma10, .ref ma11, .ref ma12, .ref ma13, .int 0, .ref ma15, .ref ma16, .ref ma17, .ref ma18, .ref ma19, .ref ma20, .ref ma21, .ref ma22, .int 0, .ref ma24, .int 0, .ref ma26, .ref ma27, .int 0, .ref ma29, .ref ma30, .ref ma31, .ref ma32, .ref ma33, .int 0, .ref ma35, .ref ma36, .int 0, .ref ma38, .int 0, .int 0, .int 0, .int 0, .int 0, .long 0, .int 0, .int 0, .int (-1), .int (-1), .int 0, .ref ma50, .ref ma51, .int 0, .int 0, .ref ma54, .ref ma55, .int (-1), .ref ma57, .ref ma58, .ref ma59, .ref ma60, .int 0, .int 0, .int 0, .ref ma64]))]) (w1 := []) hP hD [0, 1] [2] rfl rfl (by decide) (by decide) hk1 hFc hP1 hD1
  clear hk1 hz1 hPc hDc hFc hP1 hD1 hK1 hKc
  generalize H1 = H at hP hS ⊢
  have hP : va_P (dC, dI) cls [(mh0, .inr (12, [.int 0, .ref ma1, .ref ma2, .ref ma3, .ref ma4, .ref ma5, .int 0, .ref ma7, .ref ma8, .int 0, .ref ma10, .ref ma11, .ref ma12, .ref ma13, .int 0, .ref ma15, .ref ma16, .ref ma17, .ref ma18, .ref ma19, .ref ma20, .ref ma21, .ref ma22, .int 0, .ref ma24, .int 0, .ref ma26, .ref ma27, .int 0, .ref ma29, .ref ma30, .ref ma31, .ref ma32, .ref ma33, .int 0, .ref ma35, .ref ma36, .int 0, .ref ma38, .int 0, .int 0, .int 0, .int 0, .int 0, .long 0, .int 0, .int 0, .int (-1), .int (-1), .int 0, .ref ma50, .ref ma51, .int 0, .int 0, .ref ma54, .ref ma55, .int (-1), .ref ma57, .ref ma58, .ref ma59, .ref ma60, .int 0, .int 0, .int 0, .ref ma64]))] H := hP
  have hD : va_D (fun q : Nat => s.heap.size ≤ q) [(mh0, .inr (12, [.int 0, .ref ma1, .ref ma2, .ref ma3, .ref ma4, .ref ma5, .int 0, .ref ma7, .ref ma8, .int 0, .ref ma10, .ref ma11, .ref ma12, .ref ma13, .int 0, .ref ma15, .ref ma16, .ref ma17, .ref ma18, .ref ma19, .ref ma20, .ref ma21, .ref ma22, .int 0, .ref ma24, .int 0, .ref ma26, .ref ma27, .int 0, .ref ma29, .ref ma30, .ref ma31, .ref ma32, .ref ma33, .int 0, .ref ma35, .ref ma36, .int 0, .ref ma38, .int 0, .int 0, .int 0, .int 0, .int 0, .long 0, .int 0, .int 0, .int (-1), .int (-1), .int 0, .ref ma50, .ref ma51, .int 0, .int 0, .ref ma54, .ref ma55, .int (-1), .ref ma57, .ref ma58, .ref ma59, .ref ma60, .int 0, .int 0, .int 0, .ref ma64]))] := hD
  obtain rfl := hw
  refine lv_aload_n hx hb dL_law_920 rfl (lv_at hl 1 rfl) ?_
  refine lv_aload_n hx hb dL_law_921 rfl (lv_at hl 3 rfl) ?_
  refine lv_iload_n hx hb dL_law_922 rfl (lv_at hl 0 rfl) ?_
  refine lv_iconst (v := 1) hx hb dL_law_923 (by decide) ?_
  refine lv_iadd hx hb dL_law_924 ?_
  refine lv_topi (fun z_6 ez_6 => ?_)
  obtain rfl : z_6 = (1 : Int32) := ez_6.trans (by decide)
  refine va_sld hx hb hX hbl hbA hS (by unfold vp_in; decide) dL_law_925 ?_
  refine lv_aload_n hx hb dL_law_926 rfl (lv_at hl 3 rfl) ?_
  refine lv_iload_n hx hb dL_law_927 rfl (lv_at hl 0 rfl) ?_
  refine lv_iconst (v := 2) hx hb dL_law_928 (by decide) ?_
  refine lv_iadd hx hb dL_law_929 ?_
  refine lv_topi (fun z_7 ez_7 => ?_)
  obtain rfl : z_7 = (2 : Int32) := ez_7.trans (by decide)
  refine va_sld hx hb hX hbl hbA hS (by unfold vp_in; decide) dL_law_930 ?_
  refine lv_aload_n hx hb dL_law_931 rfl (lv_at hl 3 rfl) ?_
  refine lv_iload_n hx hb dL_law_932 rfl (lv_at hl 0 rfl) ?_
  refine lv_iconst (v := 3) hx hb dL_law_933 (by decide) ?_
  refine lv_iadd hx hb dL_law_934 ?_
  refine lv_topi (fun z_8 ez_8 => ?_)
  obtain rfl : z_8 = (3 : Int32) := ez_8.trans (by decide)
  refine va_sld hx hb hX hbl hbA hS (by unfold vp_in; decide) dL_law_935 ?_
  have hPc := hP.sub (ws' := [(mh0, .inr (12, [.int 0, .ref ma1, .ref ma2, .ref ma3, .ref ma4, .ref ma5, .int 0, .ref ma7, .ref ma8, .int 0, .ref ma10, .ref ma11, .ref ma12, .ref ma13, .int 0, .ref ma15, .ref ma16, .ref ma17, .ref ma18, .ref ma19, .ref ma20, .ref ma21, .ref ma22, .int 0, .ref ma24, .int 0, .ref ma26, .ref ma27, .int 0, .ref ma29, .ref ma30, .ref ma31, .ref ma32, .ref ma33, .int 0, .ref ma35, .ref ma36, .int 0, .ref ma38, .int 0, .int 0, .int 0, .int 0, .int 0, .long 0, .int 0, .int 0, .int (-1), .int (-1), .int 0, .ref ma50, .ref ma51, .int 0, .int 0, .ref ma54, .ref ma55, .int (-1), .ref ma57, .ref ma58, .ref ma59, .ref ma60, .int 0, .int 0, .int 0, .ref ma64]))]) [0] rfl
  have hDc := hD.sub (ws' := [(mh0, .inr (12, [.int 0, .ref ma1, .ref ma2, .ref ma3, .ref ma4, .ref ma5, .int 0, .ref ma7, .ref ma8, .int 0, .ref ma10, .ref ma11, .ref ma12, .ref ma13, .int 0, .ref ma15, .ref ma16, .ref ma17, .ref ma18, .ref ma19, .ref ma20, .ref ma21, .ref ma22, .int 0, .ref ma24, .int 0, .ref ma26, .ref ma27, .int 0, .ref ma29, .ref ma30, .ref ma31, .ref ma32, .ref ma33, .int 0, .ref ma35, .ref ma36, .int 0, .ref ma38, .int 0, .int 0, .int 0, .int 0, .int 0, .long 0, .int 0, .int 0, .int (-1), .int (-1), .int 0, .ref ma50, .ref ma51, .int 0, .int 0, .ref ma54, .ref ma55, .int (-1), .ref ma57, .ref ma58, .ref ma59, .ref ma60, .int 0, .int 0, .int 0, .ref ma64]))]) [0] (by decide) rfl
  have hKc := hK.sub (tys' := []) [] rfl
  have hFc := va_free (wc := [(mh0, .inr (12, [.int 0, .ref ma1, .ref ma2, .ref ma3, .ref ma4, .ref ma5, .int 0, .ref ma7, .ref ma8, .int 0, .ref ma10, .ref ma11, .ref ma12, .ref ma13, .int 0, .ref ma15, .ref ma16, .ref ma17, .ref ma18, .ref ma19, .ref ma20, .ref ma21, .ref ma22, .int 0, .ref ma24, .int 0, .ref ma26, .ref ma27, .int 0, .ref ma29, .ref ma30, .ref ma31, .ref ma32, .ref ma33, .int 0, .ref ma35, .ref ma36, .int 0, .ref ma38, .int 0, .int 0, .int 0, .int 0, .int 0, .long 0, .int 0, .int 0, .int (-1), .int (-1), .int 0, .ref ma50, .ref ma51, .int 0, .int 0, .ref ma54, .ref ma55, .int (-1), .ref ma57, .ref ma58, .ref ma59, .ref ma60, .int 0, .int 0, .int 0, .ref ma64]))]) hD hS hA [0] rfl
  refine va_calli (va_runV (As := [.int (xs (1 : Int32).toNatClampNeg), .int (xs (2 : Int32).toNatClampNeg), .int (xs (3 : Int32).toNatClampNeg)]) (rest := [.int (-1)]) ⟨hx, hb, hml, hown, hts⟩ (m_laws l dC dI H.size mh0 (xs (1 : Int32).toNatClampNeg) (xs (2 : Int32).toNatClampNeg) (xs (3 : Int32).toNatClampNeg) ma1 ma2 ma3 ma4 ma5 ma7 ma8 ma10 ma11 ma12 ma13 ma15 ma16 ma17 ma18 ma19 ma20 ma21 ma22 ma24 ma26 ma27 ma29 ma30 ma31 ma32 ma33 ma35 ma36 ma38 ma50 ma51 ma54 ma55 ma57 ma58 ma59 ma60 ma64) (cwV 3 hts gcase_18_96 rfl rfl rfl (by decide +kernel) ⟨Nat.le_of_ble_eq_true rfl, Nat.le_of_ble_eq_true rfl⟩) ⟨fun a U g mk q => by obtain ⟨q0, q1, qP, qK, qD⟩ := q; exact ⟨q0, q1, qP, va_K.moved (u := U) (U := U.calling g mk a) (Vm.Alike.refl U.vm) qK, qD⟩, va_recv hK hP (ci := 12) (q0 := 0) rfl rfl, fun U hU hW => ⟨rfl, by rw [hU], by rw [hU]; exact hPc, va_K.moved hW.alike hKc, hDc.weaken (fun _ _ _ _ => trivial)⟩⟩ rfl rfl hl.1 rfl (lv_room (Nat.le_of_ble_eq_true rfl)) dL_law_936 ⟨Nat.le_of_ble_eq_true rfl, Nat.le_of_ble_eq_true rfl⟩) hS (fun q _ h => hFc q h) hFc (fun r_10 u t H1 locs ht hvm hw hB hz1 hk1 hS => ?_)
  obtain ⟨hP1, hK1, hD1⟩ := hB
  rw [ht] at hP1
  try dsimp only at hw
  obtain ⟨hP, hD⟩ := va_join (wr := []) (w1 := []) hP hD [0] [] rfl rfl (by decide) (by decide) hk1 hFc hP1 hD1
  clear hk1 hz1 hPc hDc hFc hP1 hD1 hK1 hKc
  generalize H1 = H at hP hS ⊢
  have hP : va_P (dC, dI) cls [] H := hP
  have hD : va_D (fun q : Nat => s.heap.size ≤ q) [] := hD
  obtain rfl := hw
  refine lv_icmp_eq (tgt := 1218) hx hb dL_law_939 (by decide) (fun c_11 => ?_) (fun c_11 => ?_)
  rotate_left
  · exact (by revert c_11; decide : False).elim
  exact law_tail l C0 hS (Nat.le_of_ble_eq_true rfl) (Nat.le_of_ble_eq_true rfl) (lv_sub hl [3, 0] rfl)
theorem gcase_19_97g : GoodIn lwS wk_open := goodIn_r _ [486, 365, 366, 367, 202, 368, 190, 369, 320, 321, 322, 323, 324, 57, 58, 59, 60, 61, 62, 63, 64, 65, 66, 67, 68, 69, 70, 118, 119, 120, 121, 122, 123] (by decide +kernel) (by decide +kernel)
theorem gcase_19_97 : GoodIn lwS (wsV RL 97 RX11 yX11_open wk_open) := goodIn_app (goodIn_r _ [487, 488, 489, 202] (by decide +kernel) (by decide +kernel)) gcase_19_97g
theorem gcase_19_100g : GoodIn lwS wm_open := goodIn_r _ [490, 204, 374, 375, 376, 210, 377, 292, 216, 217, 218, 219, 124, 125, 126, 127, 128, 129, 130, 131, 132, 133, 134, 135, 136, 137, 138, 139, 140, 141, 142, 143, 144, 145, 146, 147, 148, 149, 150, 151, 152, 153, 154, 155, 156, 157, 158, 159, 160, 161, 162, 163, 164, 165, 166, 167, 168, 169, 170, 171, 172, 173, 174, 175, 176, 177, 178, 179, 180, 181, 182, 183, 184, 185, 186, 187, 188] (by decide +kernel) (by decide +kernel)
theorem gcase_19_100 : GoodIn lwS (wsV RL 100 RX12 yX12_open wm_open) := goodIn_app (goodIn_r _ [491, 492, 493, 210] (by decide +kernel) (by decide +kernel)) gcase_19_100g
set_option maxHeartbeats 4000000 in
set_option maxRecDepth 100000 in
theorem case_19 {p : Program} {e : Env} {s : State} {m : MethodId} {below : List Frame} {meth : Method} {c : Code} (l : Launch) {b : Nat} {xs : Nat → Int32} (C0 : lw_At p s m meth c b 6 xs) (dC : Nat → ClassId) (dI : Nat → Nat → Nat) (mh0 : Nat) (xh0 : Nat) (xsl : Nat) (xwalker_ : Nat) (xrd : Nat) (xmachine_ : Nat) (xtrial_ : Nat) (xdk : Nat) (xcT : ClassId) (xfT : Nat → Option Nat) (xlenses_ : Nat) (xtp : Nat) (xnames_ : Nat) (xquoted_ : Nat) (xlinks_ : Nat) (xwalker2_ : Nat) (ma1 : Nat) (ma2 : Nat) (ma3 : Nat) (ma4 : Nat) (ma5 : Nat) (ma7 : Nat) (ma8 : Nat) (ma10 : Nat) (ma11 : Nat) (ma12 : Nat) (ma13 : Nat) (ma15 : Nat) (ma16 : Nat) (ma17 : Nat) (ma18 : Nat) (ma19 : Nat) (ma20 : Nat) (ma21 : Nat) (ma22 : Nat) (ma24 : Nat) (ma26 : Nat) (ma27 : Nat) (ma29 : Nat) (ma30 : Nat) (ma31 : Nat) (ma32 : Nat) (ma33 : Nat) (ma35 : Nat) (ma36 : Nat) (ma38 : Nat) (ma50 : Nat) (ma51 : Nat) (ma54 : Nat) (ma55 : Nat) (ma57 : Nat) (ma58 : Nat) (ma59 : Nat) (ma60 : Nat) (ma64 : Nat) (hf0 : ∀ i : Int32, inS i → ∃ t, xfT i.toNatClampNeg = some t) {H : Heap} {locs : List Loc} {ls : Array Slot} (hK : va_K (dC, dI) cls [(xcT, .object RX6)] s) (hP : va_P (dC, dI) cls [(xh0, .inr (11, [.ref xsl, .ref xwalker_, .ref xrd, .ref xmachine_, .ref xtrial_, .ref xdk])), (xsl, .inl (xcT, 8, .inr (.inr (.inr (.inr xfT))))), (xrd, .inr (4, [.ref xlenses_, .int 0, .int 0, .int 0, .int (-1), .int (-1), .ref xtp, .ref xnames_, .ref xquoted_, .ref xlinks_, .ref xwalker2_, .int 0, .int 0, .int 0])), (mh0, .inr (12, [.int 0, .ref ma1, .ref ma2, .ref ma3, .ref ma4, .ref ma5, .int 0, .ref ma7, .ref ma8, .int 0, .ref ma10, .ref ma11, .ref ma12, .ref ma13, .int 0, .ref ma15, .ref ma16, .ref ma17, .ref ma18, .ref ma19, .ref ma20, .ref ma21, .ref ma22, .int 0, .ref ma24, .int 0, .ref ma26, .ref ma27, .int 0, .ref ma29, .ref ma30, .ref ma31, .ref ma32, .ref ma33, .int 0, .ref ma35, .ref ma36, .int 0, .ref ma38, .int 0, .int 0, .int 0, .int 0, .int 0, .long 0, .int 0, .int 0, .int (-1), .int (-1), .int 0, .ref ma50, .ref ma51, .int 0, .int 0, .ref ma54, .ref ma55, .int (-1), .ref ma57, .ref ma58, .ref ma59, .ref ma60, .int 0, .int 0, .int 0, .ref ma64]))] H) (hD : va_D (fun q : Nat => s.heap.size ≤ q) [(xh0, .inr (11, [.ref xsl, .ref xwalker_, .ref xrd, .ref xmachine_, .ref xtrial_, .ref xdk])), (xsl, .inl (xcT, 8, .inr (.inr (.inr (.inr xfT))))), (xrd, .inr (4, [.ref xlenses_, .int 0, .int 0, .int 0, .int (-1), .int (-1), .ref xtp, .ref xnames_, .ref xquoted_, .ref xlinks_, .ref xwalker2_, .int 0, .int 0, .int 0])), (mh0, .inr (12, [.int 0, .ref ma1, .ref ma2, .ref ma3, .ref ma4, .ref ma5, .int 0, .ref ma7, .ref ma8, .int 0, .ref ma10, .ref ma11, .ref ma12, .ref ma13, .int 0, .ref ma15, .ref ma16, .ref ma17, .ref ma18, .ref ma19, .ref ma20, .ref ma21, .ref ma22, .int 0, .ref ma24, .int 0, .ref ma26, .ref ma27, .int 0, .ref ma29, .ref ma30, .ref ma31, .ref ma32, .ref ma33, .int 0, .ref ma35, .ref ma36, .int 0, .ref ma38, .int 0, .int 0, .int 0, .int 0, .int 0, .long 0, .int 0, .int 0, .int (-1), .int (-1), .int 0, .ref ma50, .ref ma51, .int 0, .int 0, .ref ma54, .ref ma55, .int (-1), .ref ma57, .ref ma58, .ref ma59, .ref ma60, .int 0, .int 0, .int 0, .ref ma64]))]) (hS : va_S (fun q : Nat => s.heap.size ≤ q) s.heap H locs) (hl : lv_has ls 4 [(3, .int 0), (2, .ref mh0), (1, .ref xh0), (0, .ref b)]) : W p l e room_1 s m #[Value.ref b] below meth c H locs 185 1243858 (lw_Z below #[Value.ref b] s) (F0 m 944 ls []) := by
  obtain ⟨hx, hb, hr, hml, hown0, hts0, hX, hbl, hlocks, hgv⟩ := id C0
  have hown : s.vm.findClass RL = some m.cls := hown0
  have hts : ∀ w ∈ lwS, w.before #[Value.ref b] s = true := fun w h => hts0 w (wsL_law_in w h)
  have hA : ∀ q : Nat, s.heap.size ≤ q → (fun q : Nat => s.heap.size ≤ q) q := fun _ h => h
  have hbA : ¬ (fun q : Nat => s.heap.size ≤ q) b := Nat.not_le.mpr hbl
  refine lv_aload_n hx hb dL_law_944 rfl (lv_at hl 2 rfl) ?_
  refine lv_aload_n hx hb dL_law_945 rfl (lv_at hl 3 rfl) ?_
  refine lv_iload_n hx hb dL_law_946 rfl (lv_at hl 0 rfl) ?_
  refine lv_iconst (v := 1) hx hb dL_law_947 (by decide) ?_
  refine lv_iadd hx hb dL_law_948 ?_
  refine lv_topi (fun z_1 ez_1 => ?_)
  obtain rfl : z_1 = (1 : Int32) := ez_1.trans (by decide)
  refine va_sld hx hb hX hbl hbA hS (by unfold vp_in; decide) dL_law_949 ?_
  refine lv_aload_n hx hb dL_law_950 rfl (lv_at hl 3 rfl) ?_
  refine lv_iload_n hx hb dL_law_951 rfl (lv_at hl 0 rfl) ?_
  refine lv_iconst (v := 2) hx hb dL_law_952 (by decide) ?_
  refine lv_iadd hx hb dL_law_953 ?_
  refine lv_topi (fun z_2 ez_2 => ?_)
  obtain rfl : z_2 = (2 : Int32) := ez_2.trans (by decide)
  refine va_sld hx hb hX hbl hbA hS (by unfold vp_in; decide) dL_law_954 ?_
  have hPc := hP.sub (ws' := [(xh0, .inr (11, [.ref xsl, .ref xwalker_, .ref xrd, .ref xmachine_, .ref xtrial_, .ref xdk])), (xsl, .inl (xcT, 8, .inr (.inr (.inr (.inr xfT))))), (xrd, .inr (4, [.ref xlenses_, .int 0, .int 0, .int 0, .int (-1), .int (-1), .ref xtp, .ref xnames_, .ref xquoted_, .ref xlinks_, .ref xwalker2_, .int 0, .int 0, .int 0]))]) [0, 1, 2] rfl
  have hDc := hD.sub (ws' := [(xh0, .inr (11, [.ref xsl, .ref xwalker_, .ref xrd, .ref xmachine_, .ref xtrial_, .ref xdk])), (xsl, .inl (xcT, 8, .inr (.inr (.inr (.inr xfT))))), (xrd, .inr (4, [.ref xlenses_, .int 0, .int 0, .int 0, .int (-1), .int (-1), .ref xtp, .ref xnames_, .ref xquoted_, .ref xlinks_, .ref xwalker2_, .int 0, .int 0, .int 0]))]) [0, 1, 2] (by decide) rfl
  have hKc := hK.sub (tys' := [(xcT, .object RX6)]) [0] rfl
  have hFc := va_free (wc := [(xh0, .inr (11, [.ref xsl, .ref xwalker_, .ref xrd, .ref xmachine_, .ref xtrial_, .ref xdk])), (xsl, .inl (xcT, 8, .inr (.inr (.inr (.inr xfT))))), (xrd, .inr (4, [.ref xlenses_, .int 0, .int 0, .int 0, .int (-1), .int (-1), .ref xtp, .ref xnames_, .ref xquoted_, .ref xlinks_, .ref xwalker2_, .int 0, .int 0, .int 0]))]) hD hS hA [0, 1, 2] rfl
  refine va_calli (va_runV (As := [.int (xs (1 : Int32).toNatClampNeg), .int (xs (2 : Int32).toNatClampNeg)]) (rest := []) ⟨hx, hb, hml, hown, hts⟩ (k_open l dC dI H.size xh0 (xs (1 : Int32).toNatClampNeg) (xs (2 : Int32).toNatClampNeg) xsl xwalker_ xrd xmachine_ xtrial_ xdk xcT xfT xlenses_ xtp xnames_ xquoted_ xlinks_ xwalker2_ hf0) (cwV 2 hts gcase_19_97 rfl rfl rfl (by decide +kernel) ⟨Nat.le_of_ble_eq_true rfl, Nat.le_of_ble_eq_true rfl⟩) ⟨fun a U g mk q => by obtain ⟨q0, q1, qP, qK, qD⟩ := q; exact ⟨q0, q1, qP, va_K.moved (u := U) (U := U.calling g mk a) (Vm.Alike.refl U.vm) qK, qD⟩, va_recv hK hP (ci := 11) (q0 := 0) rfl rfl, fun U hU hW => ⟨rfl, by rw [hU], by rw [hU]; exact hPc, va_K.moved hW.alike hKc, hDc.weaken (fun _ _ _ _ => trivial)⟩⟩ rfl rfl hl.1 rfl (lv_room (Nat.le_of_ble_eq_true rfl)) dL_law_955 ⟨Nat.le_of_ble_eq_true rfl, Nat.le_of_ble_eq_true rfl⟩) hS (fun q _ h => hFc q h) hFc (fun r_4 u t H1 locs ht hvm hw hB hz1 hk1 hS => ?_)
  obtain ⟨hP1, hK1, hD1⟩ := hB
  rw [ht] at hP1
  try dsimp only at hw
  obtain ⟨hP, hD⟩ := va_join (wr := [(mh0, .inr (12, [.int 0, .ref ma1, .ref ma2, .ref ma3, .ref ma4, .ref ma5, .int 0, .ref ma7, .ref ma8, .int 0, .ref ma10, .ref ma11, .ref ma12, .ref ma13, .int 0, .ref ma15, .ref ma16, .ref ma17, .ref ma18, .ref ma19, .ref ma20, .ref ma21, .ref ma22, .int 0, .ref ma24, .int 0, .ref ma26, .ref ma27, .int 0, .ref ma29, .ref ma30, .ref ma31, .ref ma32, .ref ma33, .int 0, .ref ma35, .ref ma36, .int 0, .ref ma38, .int 0, .int 0, .int 0, .int 0, .int 0, .long 0, .int 0, .int 0, .int (-1), .int (-1), .int 0, .ref ma50, .ref ma51, .int 0, .int 0, .ref ma54, .ref ma55, .int (-1), .ref ma57, .ref ma58, .ref ma59, .ref ma60, .int 0, .int 0, .int 0, .ref ma64]))]) (w1 := []) hP hD [0, 1, 2] [3] rfl rfl (by decide) (by decide) hk1 hFc hP1 hD1
  clear hk1 hz1 hPc hDc hFc hP1 hD1 hK1 hKc
  generalize H1 = H at hP hS ⊢
  have hP : va_P (dC, dI) cls [(mh0, .inr (12, [.int 0, .ref ma1, .ref ma2, .ref ma3, .ref ma4, .ref ma5, .int 0, .ref ma7, .ref ma8, .int 0, .ref ma10, .ref ma11, .ref ma12, .ref ma13, .int 0, .ref ma15, .ref ma16, .ref ma17, .ref ma18, .ref ma19, .ref ma20, .ref ma21, .ref ma22, .int 0, .ref ma24, .int 0, .ref ma26, .ref ma27, .int 0, .ref ma29, .ref ma30, .ref ma31, .ref ma32, .ref ma33, .int 0, .ref ma35, .ref ma36, .int 0, .ref ma38, .int 0, .int 0, .int 0, .int 0, .int 0, .long 0, .int 0, .int 0, .int (-1), .int (-1), .int 0, .ref ma50, .ref ma51, .int 0, .int 0, .ref ma54, .ref ma55, .int (-1), .ref ma57, .ref ma58, .ref ma59, .ref ma60, .int 0, .int 0, .int 0, .ref ma64]))] H := hP
  have hD : va_D (fun q : Nat => s.heap.size ≤ q) [(mh0, .inr (12, [.int 0, .ref ma1, .ref ma2, .ref ma3, .ref ma4, .ref ma5, .int 0, .ref ma7, .ref ma8, .int 0, .ref ma10, .ref ma11, .ref ma12, .ref ma13, .int 0, .ref ma15, .ref ma16, .ref ma17, .ref ma18, .ref ma19, .ref ma20, .ref ma21, .ref ma22, .int 0, .ref ma24, .int 0, .ref ma26, .ref ma27, .int 0, .ref ma29, .ref ma30, .ref ma31, .ref ma32, .ref ma33, .int 0, .ref ma35, .ref ma36, .int 0, .ref ma38, .int 0, .int 0, .int 0, .int 0, .int 0, .long 0, .int 0, .int 0, .int (-1), .int (-1), .int 0, .ref ma50, .ref ma51, .int 0, .int 0, .ref ma54, .ref ma55, .int (-1), .ref ma57, .ref ma58, .ref ma59, .ref ma60, .int 0, .int 0, .int 0, .ref ma64]))] := hD
  obtain rfl := hw
  refine lv_aload_n hx hb dL_law_958 rfl (lv_at hl 1 rfl) ?_
  refine lv_aload_n hx hb dL_law_959 rfl (lv_at hl 3 rfl) ?_
  refine lv_iload_n hx hb dL_law_960 rfl (lv_at hl 0 rfl) ?_
  refine lv_iconst (v := 1) hx hb dL_law_961 (by decide) ?_
  refine lv_iadd hx hb dL_law_962 ?_
  refine lv_topi (fun z_5 ez_5 => ?_)
  obtain rfl : z_5 = (1 : Int32) := ez_5.trans (by decide)
  refine va_sld hx hb hX hbl hbA hS (by unfold vp_in; decide) dL_law_963 ?_
  refine lv_aload_n hx hb dL_law_964 rfl (lv_at hl 3 rfl) ?_
  refine lv_iload_n hx hb dL_law_965 rfl (lv_at hl 0 rfl) ?_
  refine lv_iconst (v := 2) hx hb dL_law_966 (by decide) ?_
  refine lv_iadd hx hb dL_law_967 ?_
  refine lv_topi (fun z_6 ez_6 => ?_)
  obtain rfl : z_6 = (2 : Int32) := ez_6.trans (by decide)
  refine va_sld hx hb hX hbl hbA hS (by unfold vp_in; decide) dL_law_968 ?_
  have hPc := hP.sub (ws' := [(mh0, .inr (12, [.int 0, .ref ma1, .ref ma2, .ref ma3, .ref ma4, .ref ma5, .int 0, .ref ma7, .ref ma8, .int 0, .ref ma10, .ref ma11, .ref ma12, .ref ma13, .int 0, .ref ma15, .ref ma16, .ref ma17, .ref ma18, .ref ma19, .ref ma20, .ref ma21, .ref ma22, .int 0, .ref ma24, .int 0, .ref ma26, .ref ma27, .int 0, .ref ma29, .ref ma30, .ref ma31, .ref ma32, .ref ma33, .int 0, .ref ma35, .ref ma36, .int 0, .ref ma38, .int 0, .int 0, .int 0, .int 0, .int 0, .long 0, .int 0, .int 0, .int (-1), .int (-1), .int 0, .ref ma50, .ref ma51, .int 0, .int 0, .ref ma54, .ref ma55, .int (-1), .ref ma57, .ref ma58, .ref ma59, .ref ma60, .int 0, .int 0, .int 0, .ref ma64]))]) [0] rfl
  have hDc := hD.sub (ws' := [(mh0, .inr (12, [.int 0, .ref ma1, .ref ma2, .ref ma3, .ref ma4, .ref ma5, .int 0, .ref ma7, .ref ma8, .int 0, .ref ma10, .ref ma11, .ref ma12, .ref ma13, .int 0, .ref ma15, .ref ma16, .ref ma17, .ref ma18, .ref ma19, .ref ma20, .ref ma21, .ref ma22, .int 0, .ref ma24, .int 0, .ref ma26, .ref ma27, .int 0, .ref ma29, .ref ma30, .ref ma31, .ref ma32, .ref ma33, .int 0, .ref ma35, .ref ma36, .int 0, .ref ma38, .int 0, .int 0, .int 0, .int 0, .int 0, .long 0, .int 0, .int 0, .int (-1), .int (-1), .int 0, .ref ma50, .ref ma51, .int 0, .int 0, .ref ma54, .ref ma55, .int (-1), .ref ma57, .ref ma58, .ref ma59, .ref ma60, .int 0, .int 0, .int 0, .ref ma64]))]) [0] (by decide) rfl
  have hKc := hK.sub (tys' := []) [] rfl
  have hFc := va_free (wc := [(mh0, .inr (12, [.int 0, .ref ma1, .ref ma2, .ref ma3, .ref ma4, .ref ma5, .int 0, .ref ma7, .ref ma8, .int 0, .ref ma10, .ref ma11, .ref ma12, .ref ma13, .int 0, .ref ma15, .ref ma16, .ref ma17, .ref ma18, .ref ma19, .ref ma20, .ref ma21, .ref ma22, .int 0, .ref ma24, .int 0, .ref ma26, .ref ma27, .int 0, .ref ma29, .ref ma30, .ref ma31, .ref ma32, .ref ma33, .int 0, .ref ma35, .ref ma36, .int 0, .ref ma38, .int 0, .int 0, .int 0, .int 0, .int 0, .long 0, .int 0, .int 0, .int (-1), .int (-1), .int 0, .ref ma50, .ref ma51, .int 0, .int 0, .ref ma54, .ref ma55, .int (-1), .ref ma57, .ref ma58, .ref ma59, .ref ma60, .int 0, .int 0, .int 0, .ref ma64]))]) hD hS hA [0] rfl
  refine va_calli (va_runV (As := [.int (xs (1 : Int32).toNatClampNeg), .int (xs (2 : Int32).toNatClampNeg)]) (rest := [.int (-1)]) ⟨hx, hb, hml, hown, hts⟩ (m_open l dC dI H.size mh0 (xs (1 : Int32).toNatClampNeg) (xs (2 : Int32).toNatClampNeg) ma1 ma2 ma3 ma4 ma5 ma7 ma8 ma10 ma11 ma12 ma13 ma15 ma16 ma17 ma18 ma19 ma20 ma21 ma22 ma24 ma26 ma27 ma29 ma30 ma31 ma32 ma33 ma35 ma36 ma38 ma50 ma51 ma54 ma55 ma57 ma58 ma59 ma60 ma64) (cwV 2 hts gcase_19_100 rfl rfl rfl (by decide +kernel) ⟨Nat.le_of_ble_eq_true rfl, Nat.le_of_ble_eq_true rfl⟩) ⟨fun a U g mk q => by obtain ⟨q0, q1, qP, qK, qD⟩ := q; exact ⟨q0, q1, qP, va_K.moved (u := U) (U := U.calling g mk a) (Vm.Alike.refl U.vm) qK, qD⟩, va_recv hK hP (ci := 12) (q0 := 0) rfl rfl, fun U hU hW => ⟨rfl, by rw [hU], by rw [hU]; exact hPc, va_K.moved hW.alike hKc, hDc.weaken (fun _ _ _ _ => trivial)⟩⟩ rfl rfl hl.1 rfl (lv_room (Nat.le_of_ble_eq_true rfl)) dL_law_969 ⟨Nat.le_of_ble_eq_true rfl, Nat.le_of_ble_eq_true rfl⟩) hS (fun q _ h => hFc q h) hFc (fun r_8 u t H1 locs ht hvm hw hB hz1 hk1 hS => ?_)
  obtain ⟨hP1, hK1, hD1⟩ := hB
  rw [ht] at hP1
  try dsimp only at hw
  obtain ⟨hP, hD⟩ := va_join (wr := []) (w1 := []) hP hD [0] [] rfl rfl (by decide) (by decide) hk1 hFc hP1 hD1
  clear hk1 hz1 hPc hDc hFc hP1 hD1 hK1 hKc
  generalize H1 = H at hP hS ⊢
  have hP : va_P (dC, dI) cls [] H := hP
  have hD : va_D (fun q : Nat => s.heap.size ≤ q) [] := hD
  obtain rfl := hw
  refine lv_icmp_eq (tgt := 1218) hx hb dL_law_972 (by decide) (fun c_9 => ?_) (fun c_9 => ?_)
  rotate_left
  · exact (by revert c_9; decide : False).elim
  exact law_tail l C0 hS (Nat.le_of_ble_eq_true rfl) (Nat.le_of_ble_eq_true rfl) (lv_sub hl [3, 0] rfl)
theorem gcase_20_101g : GoodIn lwS wk_edit := goodIn_r _ [494, 495, 496, 0, 1, 2, 3, 4, 5, 6, 7, 8, 9, 10, 11, 12, 13, 14, 118, 119, 120, 121, 122, 123] (by decide +kernel) (by decide +kernel)
theorem gcase_20_101 : GoodIn lwS (wsV RL 101 RX11 yX11_edit wk_edit) := goodIn_app (goodIn_r _ [497, 498, 499, 202] (by decide +kernel) (by decide +kernel)) gcase_20_101g
theorem gcase_20_104g : GoodIn lwS wm_edit := goodIn_r _ [500, 204, 501, 124, 125, 126, 127, 128, 129, 130, 131, 132, 133, 134, 135, 136, 137, 138, 139, 140, 141, 142, 143, 144, 145, 146, 147, 148, 149, 150, 151, 152, 153, 154, 155, 156, 157, 158, 159, 160, 161, 162, 163, 164, 165, 166, 167, 168, 169, 170, 171, 172, 173, 174, 175, 176, 177, 178, 179, 180, 181, 182, 183, 184, 185, 186, 187, 188] (by decide +kernel) (by decide +kernel)
theorem gcase_20_104 : GoodIn lwS (wsV RL 104 RX12 yX12_edit wm_edit) := goodIn_app (goodIn_r _ [502, 503, 504, 210] (by decide +kernel) (by decide +kernel)) gcase_20_104g
set_option maxHeartbeats 4000000 in
set_option maxRecDepth 100000 in
theorem case_20 {p : Program} {e : Env} {s : State} {m : MethodId} {below : List Frame} {meth : Method} {c : Code} (l : Launch) {b : Nat} {xs : Nat → Int32} (C0 : lw_At p s m meth c b 6 xs) (dC : Nat → ClassId) (dI : Nat → Nat → Nat) (mh0 : Nat) (xh0 : Nat) (xsl : Nat) (xwalker_ : Nat) (xrd : Nat) (xmachine_ : Nat) (xtrial_ : Nat) (xdk : Nat) (xsource_ : Nat) (xview_ : Nat) (xspare_ : Nat) (xoutcome_ : Nat) (xoldSources_ : Nat) (xoldViews_ : Nat) (ma1 : Nat) (ma2 : Nat) (ma3 : Nat) (ma4 : Nat) (ma5 : Nat) (ma7 : Nat) (ma8 : Nat) (ma10 : Nat) (ma11 : Nat) (ma12 : Nat) (ma13 : Nat) (ma15 : Nat) (ma16 : Nat) (ma17 : Nat) (ma18 : Nat) (ma19 : Nat) (ma20 : Nat) (ma21 : Nat) (ma22 : Nat) (ma24 : Nat) (ma26 : Nat) (ma27 : Nat) (ma29 : Nat) (ma30 : Nat) (ma31 : Nat) (ma32 : Nat) (ma33 : Nat) (ma35 : Nat) (ma36 : Nat) (ma38 : Nat) (ma50 : Nat) (ma51 : Nat) (ma54 : Nat) (ma55 : Nat) (ma57 : Nat) (ma58 : Nat) (ma59 : Nat) (ma60 : Nat) (ma64 : Nat) {H : Heap} {locs : List Loc} {ls : Array Slot} (hK : va_K (dC, dI) cls [] s) (hP : va_P (dC, dI) cls [(xh0, .inr (11, [.ref xsl, .ref xwalker_, .ref xrd, .ref xmachine_, .ref xtrial_, .ref xdk])), (xdk, .inr (0, [.null, .int (-1), .int 0, .int 0, .int 0, .int 0, .int 0, .int 0, .ref xsource_, .ref xview_, .ref xspare_, .ref xoutcome_, .ref xoldSources_, .ref xoldViews_, .int 0])), (mh0, .inr (12, [.int 0, .ref ma1, .ref ma2, .ref ma3, .ref ma4, .ref ma5, .int 0, .ref ma7, .ref ma8, .int 0, .ref ma10, .ref ma11, .ref ma12, .ref ma13, .int 0, .ref ma15, .ref ma16, .ref ma17, .ref ma18, .ref ma19, .ref ma20, .ref ma21, .ref ma22, .int 0, .ref ma24, .int 0, .ref ma26, .ref ma27, .int 0, .ref ma29, .ref ma30, .ref ma31, .ref ma32, .ref ma33, .int 0, .ref ma35, .ref ma36, .int 0, .ref ma38, .int 0, .int 0, .int 0, .int 0, .int 0, .long 0, .int 0, .int 0, .int (-1), .int (-1), .int 0, .ref ma50, .ref ma51, .int 0, .int 0, .ref ma54, .ref ma55, .int (-1), .ref ma57, .ref ma58, .ref ma59, .ref ma60, .int 0, .int 0, .int 0, .ref ma64]))] H) (hD : va_D (fun q : Nat => s.heap.size ≤ q) [(xh0, .inr (11, [.ref xsl, .ref xwalker_, .ref xrd, .ref xmachine_, .ref xtrial_, .ref xdk])), (xdk, .inr (0, [.null, .int (-1), .int 0, .int 0, .int 0, .int 0, .int 0, .int 0, .ref xsource_, .ref xview_, .ref xspare_, .ref xoutcome_, .ref xoldSources_, .ref xoldViews_, .int 0])), (mh0, .inr (12, [.int 0, .ref ma1, .ref ma2, .ref ma3, .ref ma4, .ref ma5, .int 0, .ref ma7, .ref ma8, .int 0, .ref ma10, .ref ma11, .ref ma12, .ref ma13, .int 0, .ref ma15, .ref ma16, .ref ma17, .ref ma18, .ref ma19, .ref ma20, .ref ma21, .ref ma22, .int 0, .ref ma24, .int 0, .ref ma26, .ref ma27, .int 0, .ref ma29, .ref ma30, .ref ma31, .ref ma32, .ref ma33, .int 0, .ref ma35, .ref ma36, .int 0, .ref ma38, .int 0, .int 0, .int 0, .int 0, .int 0, .long 0, .int 0, .int 0, .int (-1), .int (-1), .int 0, .ref ma50, .ref ma51, .int 0, .int 0, .ref ma54, .ref ma55, .int (-1), .ref ma57, .ref ma58, .ref ma59, .ref ma60, .int 0, .int 0, .int 0, .ref ma64]))]) (hS : va_S (fun q : Nat => s.heap.size ≤ q) s.heap H locs) (hl : lv_has ls 4 [(3, .int 0), (2, .ref mh0), (1, .ref xh0), (0, .ref b)]) : W p l e room_1 s m #[Value.ref b] below meth c H locs 185 1243858 (lw_Z below #[Value.ref b] s) (F0 m 977 ls []) := by
  obtain ⟨hx, hb, hr, hml, hown0, hts0, hX, hbl, hlocks, hgv⟩ := id C0
  have hown : s.vm.findClass RL = some m.cls := hown0
  have hts : ∀ w ∈ lwS, w.before #[Value.ref b] s = true := fun w h => hts0 w (wsL_law_in w h)
  have hA : ∀ q : Nat, s.heap.size ≤ q → (fun q : Nat => s.heap.size ≤ q) q := fun _ h => h
  have hbA : ¬ (fun q : Nat => s.heap.size ≤ q) b := Nat.not_le.mpr hbl
  refine lv_aload_n hx hb dL_law_977 rfl (lv_at hl 2 rfl) ?_
  refine lv_aload_n hx hb dL_law_978 rfl (lv_at hl 3 rfl) ?_
  refine lv_iload_n hx hb dL_law_979 rfl (lv_at hl 0 rfl) ?_
  refine lv_iconst (v := 1) hx hb dL_law_980 (by decide) ?_
  refine lv_iadd hx hb dL_law_981 ?_
  refine lv_topi (fun z_1 ez_1 => ?_)
  obtain rfl : z_1 = (1 : Int32) := ez_1.trans (by decide)
  refine va_sld hx hb hX hbl hbA hS (by unfold vp_in; decide) dL_law_982 ?_
  refine lv_aload_n hx hb dL_law_983 rfl (lv_at hl 3 rfl) ?_
  refine lv_iload_n hx hb dL_law_984 rfl (lv_at hl 0 rfl) ?_
  refine lv_iconst (v := 2) hx hb dL_law_985 (by decide) ?_
  refine lv_iadd hx hb dL_law_986 ?_
  refine lv_topi (fun z_2 ez_2 => ?_)
  obtain rfl : z_2 = (2 : Int32) := ez_2.trans (by decide)
  refine va_sld hx hb hX hbl hbA hS (by unfold vp_in; decide) dL_law_987 ?_
  refine lv_aload_n hx hb dL_law_988 rfl (lv_at hl 3 rfl) ?_
  refine lv_iload_n hx hb dL_law_989 rfl (lv_at hl 0 rfl) ?_
  refine lv_iconst (v := 3) hx hb dL_law_990 (by decide) ?_
  refine lv_iadd hx hb dL_law_991 ?_
  refine lv_topi (fun z_3 ez_3 => ?_)
  obtain rfl : z_3 = (3 : Int32) := ez_3.trans (by decide)
  refine va_sld hx hb hX hbl hbA hS (by unfold vp_in; decide) dL_law_992 ?_
  refine lv_aload_n hx hb dL_law_993 rfl (lv_at hl 3 rfl) ?_
  refine lv_iload_n hx hb dL_law_994 rfl (lv_at hl 0 rfl) ?_
  refine lv_iconst (v := 4) hx hb dL_law_995 (by decide) ?_
  refine lv_iadd hx hb dL_law_996 ?_
  refine lv_topi (fun z_4 ez_4 => ?_)
  obtain rfl : z_4 = (4 : Int32) := ez_4.trans (by decide)
  refine va_sld hx hb hX hbl hbA hS (by unfold vp_in; decide) dL_law_997 ?_
  have hPc := hP.sub (ws' := [(xh0, .inr (11, [.ref xsl, .ref xwalker_, .ref xrd, .ref xmachine_, .ref xtrial_, .ref xdk])), (xdk, .inr (0, [.null, .int (-1), .int 0, .int 0, .int 0, .int 0, .int 0, .int 0, .ref xsource_, .ref xview_, .ref xspare_, .ref xoutcome_, .ref xoldSources_, .ref xoldViews_, .int 0]))]) [0, 1] rfl
  have hDc := hD.sub (ws' := [(xh0, .inr (11, [.ref xsl, .ref xwalker_, .ref xrd, .ref xmachine_, .ref xtrial_, .ref xdk])), (xdk, .inr (0, [.null, .int (-1), .int 0, .int 0, .int 0, .int 0, .int 0, .int 0, .ref xsource_, .ref xview_, .ref xspare_, .ref xoutcome_, .ref xoldSources_, .ref xoldViews_, .int 0]))]) [0, 1] (by decide) rfl
  have hKc := hK.sub (tys' := []) [] rfl
  have hFc := va_free (wc := [(xh0, .inr (11, [.ref xsl, .ref xwalker_, .ref xrd, .ref xmachine_, .ref xtrial_, .ref xdk])), (xdk, .inr (0, [.null, .int (-1), .int 0, .int 0, .int 0, .int 0, .int 0, .int 0, .ref xsource_, .ref xview_, .ref xspare_, .ref xoutcome_, .ref xoldSources_, .ref xoldViews_, .int 0]))]) hD hS hA [0, 1] rfl
  refine va_calli (va_runV (As := [.int (xs (1 : Int32).toNatClampNeg), .int (xs (2 : Int32).toNatClampNeg), .int (xs (3 : Int32).toNatClampNeg), .int (xs (4 : Int32).toNatClampNeg)]) (rest := []) ⟨hx, hb, hml, hown, hts⟩ (k_edit l dC dI H.size xh0 (xs (1 : Int32).toNatClampNeg) (xs (2 : Int32).toNatClampNeg) (xs (3 : Int32).toNatClampNeg) (xs (4 : Int32).toNatClampNeg) xsl xwalker_ xrd xmachine_ xtrial_ xdk xsource_ xview_ xspare_ xoutcome_ xoldSources_ xoldViews_) (cwV 4 hts gcase_20_101 rfl rfl rfl (by decide +kernel) ⟨Nat.le_of_ble_eq_true rfl, Nat.le_of_ble_eq_true rfl⟩) ⟨fun a U g mk q => by obtain ⟨q0, q1, qP, qK, qD⟩ := q; exact ⟨q0, q1, qP, va_K.moved (u := U) (U := U.calling g mk a) (Vm.Alike.refl U.vm) qK, qD⟩, va_recv hK hP (ci := 11) (q0 := 0) rfl rfl, fun U hU hW => ⟨rfl, by rw [hU], by rw [hU]; exact hPc, va_K.moved hW.alike hKc, hDc.weaken (fun _ _ _ _ => trivial)⟩⟩ rfl rfl hl.1 rfl (lv_room (Nat.le_of_ble_eq_true rfl)) dL_law_998 ⟨Nat.le_of_ble_eq_true rfl, Nat.le_of_ble_eq_true rfl⟩) hS (fun q _ h => hFc q h) hFc (fun r_6 u t H1 locs ht hvm hw hB hz1 hk1 hS => ?_)
  obtain ⟨hP1, hK1, hD1⟩ := hB
  rw [ht] at hP1
  try dsimp only at hw
  obtain ⟨hP, hD⟩ := va_join (wr := [(mh0, .inr (12, [.int 0, .ref ma1, .ref ma2, .ref ma3, .ref ma4, .ref ma5, .int 0, .ref ma7, .ref ma8, .int 0, .ref ma10, .ref ma11, .ref ma12, .ref ma13, .int 0, .ref ma15, .ref ma16, .ref ma17, .ref ma18, .ref ma19, .ref ma20, .ref ma21, .ref ma22, .int 0, .ref ma24, .int 0, .ref ma26, .ref ma27, .int 0, .ref ma29, .ref ma30, .ref ma31, .ref ma32, .ref ma33, .int 0, .ref ma35, .ref ma36, .int 0, .ref ma38, .int 0, .int 0, .int 0, .int 0, .int 0, .long 0, .int 0, .int 0, .int (-1), .int (-1), .int 0, .ref ma50, .ref ma51, .int 0, .int 0, .ref ma54, .ref ma55, .int (-1), .ref ma57, .ref ma58, .ref ma59, .ref ma60, .int 0, .int 0, .int 0, .ref ma64]))]) (w1 := []) hP hD [0, 1] [2] rfl rfl (by decide) (by decide) hk1 hFc hP1 hD1
  clear hk1 hz1 hPc hDc hFc hP1 hD1 hK1 hKc
  generalize H1 = H at hP hS ⊢
  have hP : va_P (dC, dI) cls [(mh0, .inr (12, [.int 0, .ref ma1, .ref ma2, .ref ma3, .ref ma4, .ref ma5, .int 0, .ref ma7, .ref ma8, .int 0, .ref ma10, .ref ma11, .ref ma12, .ref ma13, .int 0, .ref ma15, .ref ma16, .ref ma17, .ref ma18, .ref ma19, .ref ma20, .ref ma21, .ref ma22, .int 0, .ref ma24, .int 0, .ref ma26, .ref ma27, .int 0, .ref ma29, .ref ma30, .ref ma31, .ref ma32, .ref ma33, .int 0, .ref ma35, .ref ma36, .int 0, .ref ma38, .int 0, .int 0, .int 0, .int 0, .int 0, .long 0, .int 0, .int 0, .int (-1), .int (-1), .int 0, .ref ma50, .ref ma51, .int 0, .int 0, .ref ma54, .ref ma55, .int (-1), .ref ma57, .ref ma58, .ref ma59, .ref ma60, .int 0, .int 0, .int 0, .ref ma64]))] H := hP
  have hD : va_D (fun q : Nat => s.heap.size ≤ q) [(mh0, .inr (12, [.int 0, .ref ma1, .ref ma2, .ref ma3, .ref ma4, .ref ma5, .int 0, .ref ma7, .ref ma8, .int 0, .ref ma10, .ref ma11, .ref ma12, .ref ma13, .int 0, .ref ma15, .ref ma16, .ref ma17, .ref ma18, .ref ma19, .ref ma20, .ref ma21, .ref ma22, .int 0, .ref ma24, .int 0, .ref ma26, .ref ma27, .int 0, .ref ma29, .ref ma30, .ref ma31, .ref ma32, .ref ma33, .int 0, .ref ma35, .ref ma36, .int 0, .ref ma38, .int 0, .int 0, .int 0, .int 0, .int 0, .long 0, .int 0, .int 0, .int (-1), .int (-1), .int 0, .ref ma50, .ref ma51, .int 0, .int 0, .ref ma54, .ref ma55, .int (-1), .ref ma57, .ref ma58, .ref ma59, .ref ma60, .int 0, .int 0, .int 0, .ref ma64]))] := hD
  obtain rfl := hw
  refine lv_aload_n hx hb dL_law_1001 rfl (lv_at hl 1 rfl) ?_
  refine lv_aload_n hx hb dL_law_1002 rfl (lv_at hl 3 rfl) ?_
  refine lv_iload_n hx hb dL_law_1003 rfl (lv_at hl 0 rfl) ?_
  refine lv_iconst (v := 1) hx hb dL_law_1004 (by decide) ?_
  refine lv_iadd hx hb dL_law_1005 ?_
  refine lv_topi (fun z_7 ez_7 => ?_)
  obtain rfl : z_7 = (1 : Int32) := ez_7.trans (by decide)
  refine va_sld hx hb hX hbl hbA hS (by unfold vp_in; decide) dL_law_1006 ?_
  refine lv_aload_n hx hb dL_law_1007 rfl (lv_at hl 3 rfl) ?_
  refine lv_iload_n hx hb dL_law_1008 rfl (lv_at hl 0 rfl) ?_
  refine lv_iconst (v := 2) hx hb dL_law_1009 (by decide) ?_
  refine lv_iadd hx hb dL_law_1010 ?_
  refine lv_topi (fun z_8 ez_8 => ?_)
  obtain rfl : z_8 = (2 : Int32) := ez_8.trans (by decide)
  refine va_sld hx hb hX hbl hbA hS (by unfold vp_in; decide) dL_law_1011 ?_
  refine lv_aload_n hx hb dL_law_1012 rfl (lv_at hl 3 rfl) ?_
  refine lv_iload_n hx hb dL_law_1013 rfl (lv_at hl 0 rfl) ?_
  refine lv_iconst (v := 3) hx hb dL_law_1014 (by decide) ?_
  refine lv_iadd hx hb dL_law_1015 ?_
  refine lv_topi (fun z_9 ez_9 => ?_)
  obtain rfl : z_9 = (3 : Int32) := ez_9.trans (by decide)
  refine va_sld hx hb hX hbl hbA hS (by unfold vp_in; decide) dL_law_1016 ?_
  refine lv_aload_n hx hb dL_law_1017 rfl (lv_at hl 3 rfl) ?_
  refine lv_iload_n hx hb dL_law_1018 rfl (lv_at hl 0 rfl) ?_
  refine lv_iconst (v := 4) hx hb dL_law_1019 (by decide) ?_
  refine lv_iadd hx hb dL_law_1020 ?_
  refine lv_topi (fun z_10 ez_10 => ?_)
  obtain rfl : z_10 = (4 : Int32) := ez_10.trans (by decide)
  refine va_sld hx hb hX hbl hbA hS (by unfold vp_in; decide) dL_law_1021 ?_
  have hPc := hP.sub (ws' := [(mh0, .inr (12, [.int 0, .ref ma1, .ref ma2, .ref ma3, .ref ma4, .ref ma5, .int 0, .ref ma7, .ref ma8, .int 0, .ref ma10, .ref ma11, .ref ma12, .ref ma13, .int 0, .ref ma15, .ref ma16, .ref ma17, .ref ma18, .ref ma19, .ref ma20, .ref ma21, .ref ma22, .int 0, .ref ma24, .int 0, .ref ma26, .ref ma27, .int 0, .ref ma29, .ref ma30, .ref ma31, .ref ma32, .ref ma33, .int 0, .ref ma35, .ref ma36, .int 0, .ref ma38, .int 0, .int 0, .int 0, .int 0, .int 0, .long 0, .int 0, .int 0, .int (-1), .int (-1), .int 0, .ref ma50, .ref ma51, .int 0, .int 0, .ref ma54, .ref ma55, .int (-1), .ref ma57, .ref ma58, .ref ma59, .ref ma60, .int 0, .int 0, .int 0, .ref ma64]))]) [0] rfl
  have hDc := hD.sub (ws' := [(mh0, .inr (12, [.int 0, .ref ma1, .ref ma2, .ref ma3, .ref ma4, .ref ma5, .int 0, .ref ma7, .ref ma8, .int 0, .ref ma10, .ref ma11, .ref ma12, .ref ma13, .int 0, .ref ma15, .ref ma16, .ref ma17, .ref ma18, .ref ma19, .ref ma20, .ref ma21, .ref ma22, .int 0, .ref ma24, .int 0, .ref ma26, .ref ma27, .int 0, .ref ma29, .ref ma30, .ref ma31, .ref ma32, .ref ma33, .int 0, .ref ma35, .ref ma36, .int 0, .ref ma38, .int 0, .int 0, .int 0, .int 0, .int 0, .long 0, .int 0, .int 0, .int (-1), .int (-1), .int 0, .ref ma50, .ref ma51, .int 0, .int 0, .ref ma54, .ref ma55, .int (-1), .ref ma57, .ref ma58, .ref ma59, .ref ma60, .int 0, .int 0, .int 0, .ref ma64]))]) [0] (by decide) rfl
  have hKc := hK.sub (tys' := []) [] rfl
  have hFc := va_free (wc := [(mh0, .inr (12, [.int 0, .ref ma1, .ref ma2, .ref ma3, .ref ma4, .ref ma5, .int 0, .ref ma7, .ref ma8, .int 0, .ref ma10, .ref ma11, .ref ma12, .ref ma13, .int 0, .ref ma15, .ref ma16, .ref ma17, .ref ma18, .ref ma19, .ref ma20, .ref ma21, .ref ma22, .int 0, .ref ma24, .int 0, .ref ma26, .ref ma27, .int 0, .ref ma29, .ref ma30, .ref ma31, .ref ma32, .ref ma33, .int 0, .ref ma35, .ref ma36, .int 0, .ref ma38, .int 0, .int 0, .int 0, .int 0, .int 0, .long 0, .int 0, .int 0, .int (-1), .int (-1), .int 0, .ref ma50, .ref ma51, .int 0, .int 0, .ref ma54, .ref ma55, .int (-1), .ref ma57, .ref ma58, .ref ma59, .ref ma60, .int 0, .int 0, .int 0, .ref ma64]))]) hD hS hA [0] rfl
  refine va_calli (va_runV (As := [.int (xs (1 : Int32).toNatClampNeg), .int (xs (2 : Int32).toNatClampNeg), .int (xs (3 : Int32).toNatClampNeg), .int (xs (4 : Int32).toNatClampNeg)]) (rest := [.int (-1)]) ⟨hx, hb, hml, hown, hts⟩ (m_edit l dC dI H.size mh0 (xs (1 : Int32).toNatClampNeg) (xs (2 : Int32).toNatClampNeg) (xs (3 : Int32).toNatClampNeg) (xs (4 : Int32).toNatClampNeg) ma1 ma2 ma3 ma4 ma5 ma7 ma8 ma10 ma11 ma12 ma13 ma15 ma16 ma17 ma18 ma19 ma20 ma21 ma22 ma24 ma26 ma27 ma29 ma30 ma31 ma32 ma33 ma35 ma36 ma38 ma50 ma51 ma54 ma55 ma57 ma58 ma59 ma60 ma64) (cwV 4 hts gcase_20_104 rfl rfl rfl (by decide +kernel) ⟨Nat.le_of_ble_eq_true rfl, Nat.le_of_ble_eq_true rfl⟩) ⟨fun a U g mk q => by obtain ⟨q0, q1, qP, qK, qD⟩ := q; exact ⟨q0, q1, qP, va_K.moved (u := U) (U := U.calling g mk a) (Vm.Alike.refl U.vm) qK, qD⟩, va_recv hK hP (ci := 12) (q0 := 0) rfl rfl, fun U hU hW => ⟨rfl, by rw [hU], by rw [hU]; exact hPc, va_K.moved hW.alike hKc, hDc.weaken (fun _ _ _ _ => trivial)⟩⟩ rfl rfl hl.1 rfl (lv_room (Nat.le_of_ble_eq_true rfl)) dL_law_1022 ⟨Nat.le_of_ble_eq_true rfl, Nat.le_of_ble_eq_true rfl⟩) hS (fun q _ h => hFc q h) hFc (fun r_12 u t H1 locs ht hvm hw hB hz1 hk1 hS => ?_)
  obtain ⟨hP1, hK1, hD1⟩ := hB
  rw [ht] at hP1
  try dsimp only at hw
  obtain ⟨hP, hD⟩ := va_join (wr := []) (w1 := []) hP hD [0] [] rfl rfl (by decide) (by decide) hk1 hFc hP1 hD1
  clear hk1 hz1 hPc hDc hFc hP1 hD1 hK1 hKc
  generalize H1 = H at hP hS ⊢
  have hP : va_P (dC, dI) cls [] H := hP
  have hD : va_D (fun q : Nat => s.heap.size ≤ q) [] := hD
  obtain rfl := hw
  refine lv_icmp_eq (tgt := 1218) hx hb dL_law_1025 (by decide) (fun c_13 => ?_) (fun c_13 => ?_)
  rotate_left
  · exact (by revert c_13; decide : False).elim
  exact law_tail l C0 hS (Nat.le_of_ble_eq_true rfl) (Nat.le_of_ble_eq_true rfl) (lv_sub hl [3, 0] rfl)
theorem gcase_21_105g : GoodIn lwS wk_undo := goodIn_r _ [505, 495, 506, 507, 508, 509, 510, 511, 0, 1, 2, 3, 4, 5, 6, 7, 8, 9, 10, 11, 12, 13, 14, 118, 119, 120, 121, 122, 123] (by decide +kernel) (by decide +kernel)
theorem gcase_21_105 : GoodIn lwS (wsV RL 105 RX11 yX11_undo wk_undo) := goodIn_app (goodIn_r _ [512, 513, 514, 202] (by decide +kernel) (by decide +kernel)) gcase_21_105g
theorem gcase_21_109g : GoodIn lwS wm_undo := goodIn_r _ [515, 204, 516, 124, 125, 126, 127, 128, 129, 130, 131, 132, 133, 134, 135, 136, 137, 138, 139, 140, 141, 142, 143, 144, 145, 146, 147, 148, 149, 150, 151, 152, 153, 154, 155, 156, 157, 158, 159, 160, 161, 162, 163, 164, 165, 166, 167, 168, 169, 170, 171, 172, 173, 174, 175, 176, 177, 178, 179, 180, 181, 182, 183, 184, 185, 186, 187, 188] (by decide +kernel) (by decide +kernel)
theorem gcase_21_109 : GoodIn lwS (wsV RL 109 RX12 yX12_undo wm_undo) := goodIn_app (goodIn_r _ [517, 518, 519, 210] (by decide +kernel) (by decide +kernel)) gcase_21_109g
set_option maxHeartbeats 4000000 in
set_option maxRecDepth 100000 in
theorem case_21 {p : Program} {e : Env} {s : State} {m : MethodId} {below : List Frame} {meth : Method} {c : Code} (l : Launch) {b : Nat} {xs : Nat → Int32} (C0 : lw_At p s m meth c b 6 xs) (dC : Nat → ClassId) (dI : Nat → Nat → Nat) (mh0 : Nat) (xh0 : Nat) (xsl : Nat) (xwalker_ : Nat) (xrd : Nat) (xmachine_ : Nat) (xtrial_ : Nat) (xdk : Nat) (xsource_ : Nat) (xview_ : Nat) (xspare_ : Nat) (xoutcome_ : Nat) (xoldSources_ : Nat) (xoldViews_ : Nat) (ma1 : Nat) (ma2 : Nat) (ma3 : Nat) (ma4 : Nat) (ma5 : Nat) (ma7 : Nat) (ma8 : Nat) (ma10 : Nat) (ma11 : Nat) (ma12 : Nat) (ma13 : Nat) (ma15 : Nat) (ma16 : Nat) (ma17 : Nat) (ma18 : Nat) (ma19 : Nat) (ma20 : Nat) (ma21 : Nat) (ma22 : Nat) (ma24 : Nat) (ma26 : Nat) (ma27 : Nat) (ma29 : Nat) (ma30 : Nat) (ma31 : Nat) (ma32 : Nat) (ma33 : Nat) (ma35 : Nat) (ma36 : Nat) (ma38 : Nat) (ma50 : Nat) (ma51 : Nat) (ma54 : Nat) (ma55 : Nat) (ma57 : Nat) (ma58 : Nat) (ma59 : Nat) (ma60 : Nat) (ma64 : Nat) {H : Heap} {locs : List Loc} {ls : Array Slot} (hK : va_K (dC, dI) cls [] s) (hP : va_P (dC, dI) cls [(xh0, .inr (11, [.ref xsl, .ref xwalker_, .ref xrd, .ref xmachine_, .ref xtrial_, .ref xdk])), (xdk, .inr (0, [.null, .int (-1), .int 0, .int 0, .int 0, .int 0, .int 0, .int 0, .ref xsource_, .ref xview_, .ref xspare_, .ref xoutcome_, .ref xoldSources_, .ref xoldViews_, .int 0])), (mh0, .inr (12, [.int 0, .ref ma1, .ref ma2, .ref ma3, .ref ma4, .ref ma5, .int 0, .ref ma7, .ref ma8, .int 0, .ref ma10, .ref ma11, .ref ma12, .ref ma13, .int 0, .ref ma15, .ref ma16, .ref ma17, .ref ma18, .ref ma19, .ref ma20, .ref ma21, .ref ma22, .int 0, .ref ma24, .int 0, .ref ma26, .ref ma27, .int 0, .ref ma29, .ref ma30, .ref ma31, .ref ma32, .ref ma33, .int 0, .ref ma35, .ref ma36, .int 0, .ref ma38, .int 0, .int 0, .int 0, .int 0, .int 0, .long 0, .int 0, .int 0, .int (-1), .int (-1), .int 0, .ref ma50, .ref ma51, .int 0, .int 0, .ref ma54, .ref ma55, .int (-1), .ref ma57, .ref ma58, .ref ma59, .ref ma60, .int 0, .int 0, .int 0, .ref ma64]))] H) (hD : va_D (fun q : Nat => s.heap.size ≤ q) [(xh0, .inr (11, [.ref xsl, .ref xwalker_, .ref xrd, .ref xmachine_, .ref xtrial_, .ref xdk])), (xdk, .inr (0, [.null, .int (-1), .int 0, .int 0, .int 0, .int 0, .int 0, .int 0, .ref xsource_, .ref xview_, .ref xspare_, .ref xoutcome_, .ref xoldSources_, .ref xoldViews_, .int 0])), (mh0, .inr (12, [.int 0, .ref ma1, .ref ma2, .ref ma3, .ref ma4, .ref ma5, .int 0, .ref ma7, .ref ma8, .int 0, .ref ma10, .ref ma11, .ref ma12, .ref ma13, .int 0, .ref ma15, .ref ma16, .ref ma17, .ref ma18, .ref ma19, .ref ma20, .ref ma21, .ref ma22, .int 0, .ref ma24, .int 0, .ref ma26, .ref ma27, .int 0, .ref ma29, .ref ma30, .ref ma31, .ref ma32, .ref ma33, .int 0, .ref ma35, .ref ma36, .int 0, .ref ma38, .int 0, .int 0, .int 0, .int 0, .int 0, .long 0, .int 0, .int 0, .int (-1), .int (-1), .int 0, .ref ma50, .ref ma51, .int 0, .int 0, .ref ma54, .ref ma55, .int (-1), .ref ma57, .ref ma58, .ref ma59, .ref ma60, .int 0, .int 0, .int 0, .ref ma64]))]) (hS : va_S (fun q : Nat => s.heap.size ≤ q) s.heap H locs) (hl : lv_has ls 4 [(3, .int 0), (2, .ref mh0), (1, .ref xh0), (0, .ref b)]) : W p l e room_1 s m #[Value.ref b] below meth c H locs 185 1243858 (lw_Z below #[Value.ref b] s) (F0 m 1030 ls []) := by
  obtain ⟨hx, hb, hr, hml, hown0, hts0, hX, hbl, hlocks, hgv⟩ := id C0
  have hown : s.vm.findClass RL = some m.cls := hown0
  have hts : ∀ w ∈ lwS, w.before #[Value.ref b] s = true := fun w h => hts0 w (wsL_law_in w h)
  have hA : ∀ q : Nat, s.heap.size ≤ q → (fun q : Nat => s.heap.size ≤ q) q := fun _ h => h
  have hbA : ¬ (fun q : Nat => s.heap.size ≤ q) b := Nat.not_le.mpr hbl
  refine lv_aload_n hx hb dL_law_1030 rfl (lv_at hl 2 rfl) ?_
  have hPc := hP.sub (ws' := [(xh0, .inr (11, [.ref xsl, .ref xwalker_, .ref xrd, .ref xmachine_, .ref xtrial_, .ref xdk])), (xdk, .inr (0, [.null, .int (-1), .int 0, .int 0, .int 0, .int 0, .int 0, .int 0, .ref xsource_, .ref xview_, .ref xspare_, .ref xoutcome_, .ref xoldSources_, .ref xoldViews_, .int 0]))]) [0, 1] rfl
  have hDc := hD.sub (ws' := [(xh0, .inr (11, [.ref xsl, .ref xwalker_, .ref xrd, .ref xmachine_, .ref xtrial_, .ref xdk])), (xdk, .inr (0, [.null, .int (-1), .int 0, .int 0, .int 0, .int 0, .int 0, .int 0, .ref xsource_, .ref xview_, .ref xspare_, .ref xoutcome_, .ref xoldSources_, .ref xoldViews_, .int 0]))]) [0, 1] (by decide) rfl
  have hKc := hK.sub (tys' := []) [] rfl
  have hFc := va_free (wc := [(xh0, .inr (11, [.ref xsl, .ref xwalker_, .ref xrd, .ref xmachine_, .ref xtrial_, .ref xdk])), (xdk, .inr (0, [.null, .int (-1), .int 0, .int 0, .int 0, .int 0, .int 0, .int 0, .ref xsource_, .ref xview_, .ref xspare_, .ref xoutcome_, .ref xoldSources_, .ref xoldViews_, .int 0]))]) hD hS hA [0, 1] rfl
  refine va_calli (va_runV (As := []) (rest := []) ⟨hx, hb, hml, hown, hts⟩ (k_undo l dC dI H.size xh0 xsl xwalker_ xrd xmachine_ xtrial_ xdk xsource_ xview_ xspare_ xoutcome_ xoldSources_ xoldViews_) (cwV 0 hts gcase_21_105 rfl rfl rfl (by decide +kernel) ⟨Nat.le_of_ble_eq_true rfl, Nat.le_of_ble_eq_true rfl⟩) ⟨fun a U g mk q => by obtain ⟨q0, q1, qP, qK, qD⟩ := q; exact ⟨q0, q1, qP, va_K.moved (u := U) (U := U.calling g mk a) (Vm.Alike.refl U.vm) qK, qD⟩, va_recv hK hP (ci := 11) (q0 := 0) rfl rfl, fun U hU hW => ⟨rfl, by rw [hU], by rw [hU]; exact hPc, va_K.moved hW.alike hKc, hDc.weaken (fun _ _ _ _ => trivial)⟩⟩ rfl rfl hl.1 rfl (lv_room (Nat.le_of_ble_eq_true rfl)) dL_law_1031 ⟨Nat.le_of_ble_eq_true rfl, Nat.le_of_ble_eq_true rfl⟩) hS (fun q _ h => hFc q h) hFc (fun r_2 u t H1 locs ht hvm hw hB hz1 hk1 hS => ?_)
  obtain ⟨hP1, hK1, hD1⟩ := hB
  rw [ht] at hP1
  try dsimp only at hw
  obtain ⟨hP, hD⟩ := va_join (wr := [(mh0, .inr (12, [.int 0, .ref ma1, .ref ma2, .ref ma3, .ref ma4, .ref ma5, .int 0, .ref ma7, .ref ma8, .int 0, .ref ma10, .ref ma11, .ref ma12, .ref ma13, .int 0, .ref ma15, .ref ma16, .ref ma17, .ref ma18, .ref ma19, .ref ma20, .ref ma21, .ref ma22, .int 0, .ref ma24, .int 0, .ref ma26, .ref ma27, .int 0, .ref ma29, .ref ma30, .ref ma31, .ref ma32, .ref ma33, .int 0, .ref ma35, .ref ma36, .int 0, .ref ma38, .int 0, .int 0, .int 0, .int 0, .int 0, .long 0, .int 0, .int 0, .int (-1), .int (-1), .int 0, .ref ma50, .ref ma51, .int 0, .int 0, .ref ma54, .ref ma55, .int (-1), .ref ma57, .ref ma58, .ref ma59, .ref ma60, .int 0, .int 0, .int 0, .ref ma64]))]) (w1 := []) hP hD [0, 1] [2] rfl rfl (by decide) (by decide) hk1 hFc hP1 hD1
  clear hk1 hz1 hPc hDc hFc hP1 hD1 hK1 hKc
  generalize H1 = H at hP hS ⊢
  have hP : va_P (dC, dI) cls [(mh0, .inr (12, [.int 0, .ref ma1, .ref ma2, .ref ma3, .ref ma4, .ref ma5, .int 0, .ref ma7, .ref ma8, .int 0, .ref ma10, .ref ma11, .ref ma12, .ref ma13, .int 0, .ref ma15, .ref ma16, .ref ma17, .ref ma18, .ref ma19, .ref ma20, .ref ma21, .ref ma22, .int 0, .ref ma24, .int 0, .ref ma26, .ref ma27, .int 0, .ref ma29, .ref ma30, .ref ma31, .ref ma32, .ref ma33, .int 0, .ref ma35, .ref ma36, .int 0, .ref ma38, .int 0, .int 0, .int 0, .int 0, .int 0, .long 0, .int 0, .int 0, .int (-1), .int (-1), .int 0, .ref ma50, .ref ma51, .int 0, .int 0, .ref ma54, .ref ma55, .int (-1), .ref ma57, .ref ma58, .ref ma59, .ref ma60, .int 0, .int 0, .int 0, .ref ma64]))] H := hP
  have hD : va_D (fun q : Nat => s.heap.size ≤ q) [(mh0, .inr (12, [.int 0, .ref ma1, .ref ma2, .ref ma3, .ref ma4, .ref ma5, .int 0, .ref ma7, .ref ma8, .int 0, .ref ma10, .ref ma11, .ref ma12, .ref ma13, .int 0, .ref ma15, .ref ma16, .ref ma17, .ref ma18, .ref ma19, .ref ma20, .ref ma21, .ref ma22, .int 0, .ref ma24, .int 0, .ref ma26, .ref ma27, .int 0, .ref ma29, .ref ma30, .ref ma31, .ref ma32, .ref ma33, .int 0, .ref ma35, .ref ma36, .int 0, .ref ma38, .int 0, .int 0, .int 0, .int 0, .int 0, .long 0, .int 0, .int 0, .int (-1), .int (-1), .int 0, .ref ma50, .ref ma51, .int 0, .int 0, .ref ma54, .ref ma55, .int (-1), .ref ma57, .ref ma58, .ref ma59, .ref ma60, .int 0, .int 0, .int 0, .ref ma64]))] := hD
  obtain rfl := hw
  refine lv_aload_n hx hb dL_law_1034 rfl (lv_at hl 1 rfl) ?_
  have hPc := hP.sub (ws' := [(mh0, .inr (12, [.int 0, .ref ma1, .ref ma2, .ref ma3, .ref ma4, .ref ma5, .int 0, .ref ma7, .ref ma8, .int 0, .ref ma10, .ref ma11, .ref ma12, .ref ma13, .int 0, .ref ma15, .ref ma16, .ref ma17, .ref ma18, .ref ma19, .ref ma20, .ref ma21, .ref ma22, .int 0, .ref ma24, .int 0, .ref ma26, .ref ma27, .int 0, .ref ma29, .ref ma30, .ref ma31, .ref ma32, .ref ma33, .int 0, .ref ma35, .ref ma36, .int 0, .ref ma38, .int 0, .int 0, .int 0, .int 0, .int 0, .long 0, .int 0, .int 0, .int (-1), .int (-1), .int 0, .ref ma50, .ref ma51, .int 0, .int 0, .ref ma54, .ref ma55, .int (-1), .ref ma57, .ref ma58, .ref ma59, .ref ma60, .int 0, .int 0, .int 0, .ref ma64]))]) [0] rfl
  have hDc := hD.sub (ws' := [(mh0, .inr (12, [.int 0, .ref ma1, .ref ma2, .ref ma3, .ref ma4, .ref ma5, .int 0, .ref ma7, .ref ma8, .int 0, .ref ma10, .ref ma11, .ref ma12, .ref ma13, .int 0, .ref ma15, .ref ma16, .ref ma17, .ref ma18, .ref ma19, .ref ma20, .ref ma21, .ref ma22, .int 0, .ref ma24, .int 0, .ref ma26, .ref ma27, .int 0, .ref ma29, .ref ma30, .ref ma31, .ref ma32, .ref ma33, .int 0, .ref ma35, .ref ma36, .int 0, .ref ma38, .int 0, .int 0, .int 0, .int 0, .int 0, .long 0, .int 0, .int 0, .int (-1), .int (-1), .int 0, .ref ma50, .ref ma51, .int 0, .int 0, .ref ma54, .ref ma55, .int (-1), .ref ma57, .ref ma58, .ref ma59, .ref ma60, .int 0, .int 0, .int 0, .ref ma64]))]) [0] (by decide) rfl
  have hKc := hK.sub (tys' := []) [] rfl
  have hFc := va_free (wc := [(mh0, .inr (12, [.int 0, .ref ma1, .ref ma2, .ref ma3, .ref ma4, .ref ma5, .int 0, .ref ma7, .ref ma8, .int 0, .ref ma10, .ref ma11, .ref ma12, .ref ma13, .int 0, .ref ma15, .ref ma16, .ref ma17, .ref ma18, .ref ma19, .ref ma20, .ref ma21, .ref ma22, .int 0, .ref ma24, .int 0, .ref ma26, .ref ma27, .int 0, .ref ma29, .ref ma30, .ref ma31, .ref ma32, .ref ma33, .int 0, .ref ma35, .ref ma36, .int 0, .ref ma38, .int 0, .int 0, .int 0, .int 0, .int 0, .long 0, .int 0, .int 0, .int (-1), .int (-1), .int 0, .ref ma50, .ref ma51, .int 0, .int 0, .ref ma54, .ref ma55, .int (-1), .ref ma57, .ref ma58, .ref ma59, .ref ma60, .int 0, .int 0, .int 0, .ref ma64]))]) hD hS hA [0] rfl
  refine va_calli (va_runV (As := []) (rest := [.int 0]) ⟨hx, hb, hml, hown, hts⟩ (m_undo l dC dI H.size mh0 ma1 ma2 ma3 ma4 ma5 ma7 ma8 ma10 ma11 ma12 ma13 ma15 ma16 ma17 ma18 ma19 ma20 ma21 ma22 ma24 ma26 ma27 ma29 ma30 ma31 ma32 ma33 ma35 ma36 ma38 ma50 ma51 ma54 ma55 ma57 ma58 ma59 ma60 ma64) (cwV 0 hts gcase_21_109 rfl rfl rfl (by decide +kernel) ⟨Nat.le_of_ble_eq_true rfl, Nat.le_of_ble_eq_true rfl⟩) ⟨fun a U g mk q => by obtain ⟨q0, q1, qP, qK, qD⟩ := q; exact ⟨q0, q1, qP, va_K.moved (u := U) (U := U.calling g mk a) (Vm.Alike.refl U.vm) qK, qD⟩, va_recv hK hP (ci := 12) (q0 := 0) rfl rfl, fun U hU hW => ⟨rfl, by rw [hU], by rw [hU]; exact hPc, va_K.moved hW.alike hKc, hDc.weaken (fun _ _ _ _ => trivial)⟩⟩ rfl rfl hl.1 rfl (lv_room (Nat.le_of_ble_eq_true rfl)) dL_law_1035 ⟨Nat.le_of_ble_eq_true rfl, Nat.le_of_ble_eq_true rfl⟩) hS (fun q _ h => hFc q h) hFc (fun r_4 u t H1 locs ht hvm hw hB hz1 hk1 hS => ?_)
  obtain ⟨hP1, hK1, hD1⟩ := hB
  rw [ht] at hP1
  try dsimp only at hw
  obtain ⟨hP, hD⟩ := va_join (wr := []) (w1 := []) hP hD [0] [] rfl rfl (by decide) (by decide) hk1 hFc hP1 hD1
  clear hk1 hz1 hPc hDc hFc hP1 hD1 hK1 hKc
  generalize H1 = H at hP hS ⊢
  have hP : va_P (dC, dI) cls [] H := hP
  have hD : va_D (fun q : Nat => s.heap.size ≤ q) [] := hD
  obtain rfl := hw
  refine lv_icmp_eq (tgt := 1218) hx hb dL_law_1038 (by decide) (fun c_5 => ?_) (fun c_5 => ?_)
  rotate_left
  · exact (by revert c_5; decide : False).elim
  exact law_tail l C0 hS (Nat.le_of_ble_eq_true rfl) (Nat.le_of_ble_eq_true rfl) (lv_sub hl [3, 0] rfl)
theorem gcase_22_110g : GoodIn lwS wk_copy := goodIn_r _ [520, 320, 321, 322, 202, 323, 324, 495, 496, 0, 1, 2, 3, 4, 5, 6, 7, 8, 9, 10, 11, 12, 13, 14, 118, 119, 120, 121, 122, 123] (by decide +kernel) (by decide +kernel)
theorem gcase_22_110 : GoodIn lwS (wsV RL 110 RX11 yX11_copy wk_copy) := goodIn_app (goodIn_r _ [521, 522, 523, 202] (by decide +kernel) (by decide +kernel)) gcase_22_110g
theorem gcase_22_113g : GoodIn lwS wm_copy := goodIn_r _ [524, 204, 501, 124, 125, 126, 127, 128, 129, 130, 131, 132, 133, 134, 135, 136, 137, 138, 139, 140, 141, 142, 143, 144, 145, 146, 147, 148, 149, 150, 151, 152, 153, 154, 155, 156, 157, 158, 159, 160, 161, 162, 163, 164, 165, 166, 167, 168, 169, 170, 171, 172, 173, 174, 175, 176, 177, 178, 179, 180, 181, 182, 183, 184, 185, 186, 187, 188] (by decide +kernel) (by decide +kernel)
theorem gcase_22_113 : GoodIn lwS (wsV RL 113 RX12 yX12_copy wm_copy) := goodIn_app (goodIn_r _ [525, 526, 527, 210] (by decide +kernel) (by decide +kernel)) gcase_22_113g
set_option maxHeartbeats 4000000 in
set_option maxRecDepth 100000 in
theorem case_22 {p : Program} {e : Env} {s : State} {m : MethodId} {below : List Frame} {meth : Method} {c : Code} (l : Launch) {b : Nat} {xs : Nat → Int32} (C0 : lw_At p s m meth c b 6 xs) (dC : Nat → ClassId) (dI : Nat → Nat → Nat) (mh0 : Nat) (xh0 : Nat) (xsl : Nat) (xwalker_ : Nat) (xrd : Nat) (xmachine_ : Nat) (xtrial_ : Nat) (xdk : Nat) (xcT : ClassId) (xfT : Nat → Option Nat) (xsource_ : Nat) (xview_ : Nat) (xspare_ : Nat) (xoutcome_ : Nat) (xoldSources_ : Nat) (xoldViews_ : Nat) (ma1 : Nat) (ma2 : Nat) (ma3 : Nat) (ma4 : Nat) (ma5 : Nat) (ma7 : Nat) (ma8 : Nat) (ma10 : Nat) (ma11 : Nat) (ma12 : Nat) (ma13 : Nat) (ma15 : Nat) (ma16 : Nat) (ma17 : Nat) (ma18 : Nat) (ma19 : Nat) (ma20 : Nat) (ma21 : Nat) (ma22 : Nat) (ma24 : Nat) (ma26 : Nat) (ma27 : Nat) (ma29 : Nat) (ma30 : Nat) (ma31 : Nat) (ma32 : Nat) (ma33 : Nat) (ma35 : Nat) (ma36 : Nat) (ma38 : Nat) (ma50 : Nat) (ma51 : Nat) (ma54 : Nat) (ma55 : Nat) (ma57 : Nat) (ma58 : Nat) (ma59 : Nat) (ma60 : Nat) (ma64 : Nat) (hf0 : ∀ i : Int32, inS i → ∃ t, xfT i.toNatClampNeg = some t) {H : Heap} {locs : List Loc} {ls : Array Slot} (hK : va_K (dC, dI) cls [(xcT, .object RX6)] s) (hP : va_P (dC, dI) cls [(xh0, .inr (11, [.ref xsl, .ref xwalker_, .ref xrd, .ref xmachine_, .ref xtrial_, .ref xdk])), (xsl, .inl (xcT, 8, .inr (.inr (.inr (.inr xfT))))), (xdk, .inr (0, [.null, .int (-1), .int 0, .int 0, .int 0, .int 0, .int 0, .int 0, .ref xsource_, .ref xview_, .ref xspare_, .ref xoutcome_, .ref xoldSources_, .ref xoldViews_, .int 0])), (mh0, .inr (12, [.int 0, .ref ma1, .ref ma2, .ref ma3, .ref ma4, .ref ma5, .int 0, .ref ma7, .ref ma8, .int 0, .ref ma10, .ref ma11, .ref ma12, .ref ma13, .int 0, .ref ma15, .ref ma16, .ref ma17, .ref ma18, .ref ma19, .ref ma20, .ref ma21, .ref ma22, .int 0, .ref ma24, .int 0, .ref ma26, .ref ma27, .int 0, .ref ma29, .ref ma30, .ref ma31, .ref ma32, .ref ma33, .int 0, .ref ma35, .ref ma36, .int 0, .ref ma38, .int 0, .int 0, .int 0, .int 0, .int 0, .long 0, .int 0, .int 0, .int (-1), .int (-1), .int 0, .ref ma50, .ref ma51, .int 0, .int 0, .ref ma54, .ref ma55, .int (-1), .ref ma57, .ref ma58, .ref ma59, .ref ma60, .int 0, .int 0, .int 0, .ref ma64]))] H) (hD : va_D (fun q : Nat => s.heap.size ≤ q) [(xh0, .inr (11, [.ref xsl, .ref xwalker_, .ref xrd, .ref xmachine_, .ref xtrial_, .ref xdk])), (xsl, .inl (xcT, 8, .inr (.inr (.inr (.inr xfT))))), (xdk, .inr (0, [.null, .int (-1), .int 0, .int 0, .int 0, .int 0, .int 0, .int 0, .ref xsource_, .ref xview_, .ref xspare_, .ref xoutcome_, .ref xoldSources_, .ref xoldViews_, .int 0])), (mh0, .inr (12, [.int 0, .ref ma1, .ref ma2, .ref ma3, .ref ma4, .ref ma5, .int 0, .ref ma7, .ref ma8, .int 0, .ref ma10, .ref ma11, .ref ma12, .ref ma13, .int 0, .ref ma15, .ref ma16, .ref ma17, .ref ma18, .ref ma19, .ref ma20, .ref ma21, .ref ma22, .int 0, .ref ma24, .int 0, .ref ma26, .ref ma27, .int 0, .ref ma29, .ref ma30, .ref ma31, .ref ma32, .ref ma33, .int 0, .ref ma35, .ref ma36, .int 0, .ref ma38, .int 0, .int 0, .int 0, .int 0, .int 0, .long 0, .int 0, .int 0, .int (-1), .int (-1), .int 0, .ref ma50, .ref ma51, .int 0, .int 0, .ref ma54, .ref ma55, .int (-1), .ref ma57, .ref ma58, .ref ma59, .ref ma60, .int 0, .int 0, .int 0, .ref ma64]))]) (hS : va_S (fun q : Nat => s.heap.size ≤ q) s.heap H locs) (hl : lv_has ls 4 [(3, .int 0), (2, .ref mh0), (1, .ref xh0), (0, .ref b)]) : W p l e room_1 s m #[Value.ref b] below meth c H locs 185 1243858 (lw_Z below #[Value.ref b] s) (F0 m 1043 ls []) := by
  obtain ⟨hx, hb, hr, hml, hown0, hts0, hX, hbl, hlocks, hgv⟩ := id C0
  have hown : s.vm.findClass RL = some m.cls := hown0
  have hts : ∀ w ∈ lwS, w.before #[Value.ref b] s = true := fun w h => hts0 w (wsL_law_in w h)
  have hA : ∀ q : Nat, s.heap.size ≤ q → (fun q : Nat => s.heap.size ≤ q) q := fun _ h => h
  have hbA : ¬ (fun q : Nat => s.heap.size ≤ q) b := Nat.not_le.mpr hbl
  refine lv_aload_n hx hb dL_law_1043 rfl (lv_at hl 2 rfl) ?_
  refine lv_aload_n hx hb dL_law_1044 rfl (lv_at hl 3 rfl) ?_
  refine lv_iload_n hx hb dL_law_1045 rfl (lv_at hl 0 rfl) ?_
  refine lv_iconst (v := 1) hx hb dL_law_1046 (by decide) ?_
  refine lv_iadd hx hb dL_law_1047 ?_
  refine lv_topi (fun z_1 ez_1 => ?_)
  obtain rfl : z_1 = (1 : Int32) := ez_1.trans (by decide)
  refine va_sld hx hb hX hbl hbA hS (by unfold vp_in; decide) dL_law_1048 ?_
  refine lv_aload_n hx hb dL_law_1049 rfl (lv_at hl 3 rfl) ?_
  refine lv_iload_n hx hb dL_law_1050 rfl (lv_at hl 0 rfl) ?_
  refine lv_iconst (v := 2) hx hb dL_law_1051 (by decide) ?_
  refine lv_iadd hx hb dL_law_1052 ?_
  refine lv_topi (fun z_2 ez_2 => ?_)
  obtain rfl : z_2 = (2 : Int32) := ez_2.trans (by decide)
  refine va_sld hx hb hX hbl hbA hS (by unfold vp_in; decide) dL_law_1053 ?_
  have hPc := hP.sub (ws' := [(xh0, .inr (11, [.ref xsl, .ref xwalker_, .ref xrd, .ref xmachine_, .ref xtrial_, .ref xdk])), (xsl, .inl (xcT, 8, .inr (.inr (.inr (.inr xfT))))), (xdk, .inr (0, [.null, .int (-1), .int 0, .int 0, .int 0, .int 0, .int 0, .int 0, .ref xsource_, .ref xview_, .ref xspare_, .ref xoutcome_, .ref xoldSources_, .ref xoldViews_, .int 0]))]) [0, 1, 2] rfl
  have hDc := hD.sub (ws' := [(xh0, .inr (11, [.ref xsl, .ref xwalker_, .ref xrd, .ref xmachine_, .ref xtrial_, .ref xdk])), (xsl, .inl (xcT, 8, .inr (.inr (.inr (.inr xfT))))), (xdk, .inr (0, [.null, .int (-1), .int 0, .int 0, .int 0, .int 0, .int 0, .int 0, .ref xsource_, .ref xview_, .ref xspare_, .ref xoutcome_, .ref xoldSources_, .ref xoldViews_, .int 0]))]) [0, 1, 2] (by decide) rfl
  have hKc := hK.sub (tys' := [(xcT, .object RX6)]) [0] rfl
  have hFc := va_free (wc := [(xh0, .inr (11, [.ref xsl, .ref xwalker_, .ref xrd, .ref xmachine_, .ref xtrial_, .ref xdk])), (xsl, .inl (xcT, 8, .inr (.inr (.inr (.inr xfT))))), (xdk, .inr (0, [.null, .int (-1), .int 0, .int 0, .int 0, .int 0, .int 0, .int 0, .ref xsource_, .ref xview_, .ref xspare_, .ref xoutcome_, .ref xoldSources_, .ref xoldViews_, .int 0]))]) hD hS hA [0, 1, 2] rfl
  refine va_calli (va_runV (As := [.int (xs (1 : Int32).toNatClampNeg), .int (xs (2 : Int32).toNatClampNeg)]) (rest := []) ⟨hx, hb, hml, hown, hts⟩ (k_copy l dC dI H.size xh0 (xs (1 : Int32).toNatClampNeg) (xs (2 : Int32).toNatClampNeg) xsl xwalker_ xrd xmachine_ xtrial_ xdk xcT xfT xsource_ xview_ xspare_ xoutcome_ xoldSources_ xoldViews_ hf0) (cwV 2 hts gcase_22_110 rfl rfl rfl (by decide +kernel) ⟨Nat.le_of_ble_eq_true rfl, Nat.le_of_ble_eq_true rfl⟩) ⟨fun a U g mk q => by obtain ⟨q0, q1, qP, qK, qD⟩ := q; exact ⟨q0, q1, qP, va_K.moved (u := U) (U := U.calling g mk a) (Vm.Alike.refl U.vm) qK, qD⟩, va_recv hK hP (ci := 11) (q0 := 0) rfl rfl, fun U hU hW => ⟨rfl, by rw [hU], by rw [hU]; exact hPc, va_K.moved hW.alike hKc, hDc.weaken (fun _ _ _ _ => trivial)⟩⟩ rfl rfl hl.1 rfl (lv_room (Nat.le_of_ble_eq_true rfl)) dL_law_1054 ⟨Nat.le_of_ble_eq_true rfl, Nat.le_of_ble_eq_true rfl⟩) hS (fun q _ h => hFc q h) hFc (fun r_4 u t H1 locs ht hvm hw hB hz1 hk1 hS => ?_)
  obtain ⟨hP1, hK1, hD1⟩ := hB
  rw [ht] at hP1
  try dsimp only at hw
  obtain ⟨hP, hD⟩ := va_join (wr := [(mh0, .inr (12, [.int 0, .ref ma1, .ref ma2, .ref ma3, .ref ma4, .ref ma5, .int 0, .ref ma7, .ref ma8, .int 0, .ref ma10, .ref ma11, .ref ma12, .ref ma13, .int 0, .ref ma15, .ref ma16, .ref ma17, .ref ma18, .ref ma19, .ref ma20, .ref ma21, .ref ma22, .int 0, .ref ma24, .int 0, .ref ma26, .ref ma27, .int 0, .ref ma29, .ref ma30, .ref ma31, .ref ma32, .ref ma33, .int 0, .ref ma35, .ref ma36, .int 0, .ref ma38, .int 0, .int 0, .int 0, .int 0, .int 0, .long 0, .int 0, .int 0, .int (-1), .int (-1), .int 0, .ref ma50, .ref ma51, .int 0, .int 0, .ref ma54, .ref ma55, .int (-1), .ref ma57, .ref ma58, .ref ma59, .ref ma60, .int 0, .int 0, .int 0, .ref ma64]))]) (w1 := []) hP hD [0, 1, 2] [3] rfl rfl (by decide) (by decide) hk1 hFc hP1 hD1
  clear hk1 hz1 hPc hDc hFc hP1 hD1 hK1 hKc
  generalize H1 = H at hP hS ⊢
  have hP : va_P (dC, dI) cls [(mh0, .inr (12, [.int 0, .ref ma1, .ref ma2, .ref ma3, .ref ma4, .ref ma5, .int 0, .ref ma7, .ref ma8, .int 0, .ref ma10, .ref ma11, .ref ma12, .ref ma13, .int 0, .ref ma15, .ref ma16, .ref ma17, .ref ma18, .ref ma19, .ref ma20, .ref ma21, .ref ma22, .int 0, .ref ma24, .int 0, .ref ma26, .ref ma27, .int 0, .ref ma29, .ref ma30, .ref ma31, .ref ma32, .ref ma33, .int 0, .ref ma35, .ref ma36, .int 0, .ref ma38, .int 0, .int 0, .int 0, .int 0, .int 0, .long 0, .int 0, .int 0, .int (-1), .int (-1), .int 0, .ref ma50, .ref ma51, .int 0, .int 0, .ref ma54, .ref ma55, .int (-1), .ref ma57, .ref ma58, .ref ma59, .ref ma60, .int 0, .int 0, .int 0, .ref ma64]))] H := hP
  have hD : va_D (fun q : Nat => s.heap.size ≤ q) [(mh0, .inr (12, [.int 0, .ref ma1, .ref ma2, .ref ma3, .ref ma4, .ref ma5, .int 0, .ref ma7, .ref ma8, .int 0, .ref ma10, .ref ma11, .ref ma12, .ref ma13, .int 0, .ref ma15, .ref ma16, .ref ma17, .ref ma18, .ref ma19, .ref ma20, .ref ma21, .ref ma22, .int 0, .ref ma24, .int 0, .ref ma26, .ref ma27, .int 0, .ref ma29, .ref ma30, .ref ma31, .ref ma32, .ref ma33, .int 0, .ref ma35, .ref ma36, .int 0, .ref ma38, .int 0, .int 0, .int 0, .int 0, .int 0, .long 0, .int 0, .int 0, .int (-1), .int (-1), .int 0, .ref ma50, .ref ma51, .int 0, .int 0, .ref ma54, .ref ma55, .int (-1), .ref ma57, .ref ma58, .ref ma59, .ref ma60, .int 0, .int 0, .int 0, .ref ma64]))] := hD
  obtain rfl := hw
  refine lv_aload_n hx hb dL_law_1057 rfl (lv_at hl 1 rfl) ?_
  refine lv_aload_n hx hb dL_law_1058 rfl (lv_at hl 3 rfl) ?_
  refine lv_iload_n hx hb dL_law_1059 rfl (lv_at hl 0 rfl) ?_
  refine lv_iconst (v := 1) hx hb dL_law_1060 (by decide) ?_
  refine lv_iadd hx hb dL_law_1061 ?_
  refine lv_topi (fun z_5 ez_5 => ?_)
  obtain rfl : z_5 = (1 : Int32) := ez_5.trans (by decide)
  refine va_sld hx hb hX hbl hbA hS (by unfold vp_in; decide) dL_law_1062 ?_
  refine lv_aload_n hx hb dL_law_1063 rfl (lv_at hl 3 rfl) ?_
  refine lv_iload_n hx hb dL_law_1064 rfl (lv_at hl 0 rfl) ?_
  refine lv_iconst (v := 2) hx hb dL_law_1065 (by decide) ?_
  refine lv_iadd hx hb dL_law_1066 ?_
  refine lv_topi (fun z_6 ez_6 => ?_)
  obtain rfl : z_6 = (2 : Int32) := ez_6.trans (by decide)
  refine va_sld hx hb hX hbl hbA hS (by unfold vp_in; decide) dL_law_1067 ?_
  have hPc := hP.sub (ws' := [(mh0, .inr (12, [.int 0, .ref ma1, .ref ma2, .ref ma3, .ref ma4, .ref ma5, .int 0, .ref ma7, .ref ma8, .int 0, .ref ma10, .ref ma11, .ref ma12, .ref ma13, .int 0, .ref ma15, .ref ma16, .ref ma17, .ref ma18, .ref ma19, .ref ma20, .ref ma21, .ref ma22, .int 0, .ref ma24, .int 0, .ref ma26, .ref ma27, .int 0, .ref ma29, .ref ma30, .ref ma31, .ref ma32, .ref ma33, .int 0, .ref ma35, .ref ma36, .int 0, .ref ma38, .int 0, .int 0, .int 0, .int 0, .int 0, .long 0, .int 0, .int 0, .int (-1), .int (-1), .int 0, .ref ma50, .ref ma51, .int 0, .int 0, .ref ma54, .ref ma55, .int (-1), .ref ma57, .ref ma58, .ref ma59, .ref ma60, .int 0, .int 0, .int 0, .ref ma64]))]) [0] rfl
  have hDc := hD.sub (ws' := [(mh0, .inr (12, [.int 0, .ref ma1, .ref ma2, .ref ma3, .ref ma4, .ref ma5, .int 0, .ref ma7, .ref ma8, .int 0, .ref ma10, .ref ma11, .ref ma12, .ref ma13, .int 0, .ref ma15, .ref ma16, .ref ma17, .ref ma18, .ref ma19, .ref ma20, .ref ma21, .ref ma22, .int 0, .ref ma24, .int 0, .ref ma26, .ref ma27, .int 0, .ref ma29, .ref ma30, .ref ma31, .ref ma32, .ref ma33, .int 0, .ref ma35, .ref ma36, .int 0, .ref ma38, .int 0, .int 0, .int 0, .int 0, .int 0, .long 0, .int 0, .int 0, .int (-1), .int (-1), .int 0, .ref ma50, .ref ma51, .int 0, .int 0, .ref ma54, .ref ma55, .int (-1), .ref ma57, .ref ma58, .ref ma59, .ref ma60, .int 0, .int 0, .int 0, .ref ma64]))]) [0] (by decide) rfl
  have hKc := hK.sub (tys' := []) [] rfl
  have hFc := va_free (wc := [(mh0, .inr (12, [.int 0, .ref ma1, .ref ma2, .ref ma3, .ref ma4, .ref ma5, .int 0, .ref ma7, .ref ma8, .int 0, .ref ma10, .ref ma11, .ref ma12, .ref ma13, .int 0, .ref ma15, .ref ma16, .ref ma17, .ref ma18, .ref ma19, .ref ma20, .ref ma21, .ref ma22, .int 0, .ref ma24, .int 0, .ref ma26, .ref ma27, .int 0, .ref ma29, .ref ma30, .ref ma31, .ref ma32, .ref ma33, .int 0, .ref ma35, .ref ma36, .int 0, .ref ma38, .int 0, .int 0, .int 0, .int 0, .int 0, .long 0, .int 0, .int 0, .int (-1), .int (-1), .int 0, .ref ma50, .ref ma51, .int 0, .int 0, .ref ma54, .ref ma55, .int (-1), .ref ma57, .ref ma58, .ref ma59, .ref ma60, .int 0, .int 0, .int 0, .ref ma64]))]) hD hS hA [0] rfl
  refine va_calli (va_runV (As := [.int (xs (1 : Int32).toNatClampNeg), .int (xs (2 : Int32).toNatClampNeg)]) (rest := [.int (-1)]) ⟨hx, hb, hml, hown, hts⟩ (m_copy l dC dI H.size mh0 (xs (1 : Int32).toNatClampNeg) (xs (2 : Int32).toNatClampNeg) ma1 ma2 ma3 ma4 ma5 ma7 ma8 ma10 ma11 ma12 ma13 ma15 ma16 ma17 ma18 ma19 ma20 ma21 ma22 ma24 ma26 ma27 ma29 ma30 ma31 ma32 ma33 ma35 ma36 ma38 ma50 ma51 ma54 ma55 ma57 ma58 ma59 ma60 ma64) (cwV 2 hts gcase_22_113 rfl rfl rfl (by decide +kernel) ⟨Nat.le_of_ble_eq_true rfl, Nat.le_of_ble_eq_true rfl⟩) ⟨fun a U g mk q => by obtain ⟨q0, q1, qP, qK, qD⟩ := q; exact ⟨q0, q1, qP, va_K.moved (u := U) (U := U.calling g mk a) (Vm.Alike.refl U.vm) qK, qD⟩, va_recv hK hP (ci := 12) (q0 := 0) rfl rfl, fun U hU hW => ⟨rfl, by rw [hU], by rw [hU]; exact hPc, va_K.moved hW.alike hKc, hDc.weaken (fun _ _ _ _ => trivial)⟩⟩ rfl rfl hl.1 rfl (lv_room (Nat.le_of_ble_eq_true rfl)) dL_law_1068 ⟨Nat.le_of_ble_eq_true rfl, Nat.le_of_ble_eq_true rfl⟩) hS (fun q _ h => hFc q h) hFc (fun r_8 u t H1 locs ht hvm hw hB hz1 hk1 hS => ?_)
  obtain ⟨hP1, hK1, hD1⟩ := hB
  rw [ht] at hP1
  try dsimp only at hw
  obtain ⟨hP, hD⟩ := va_join (wr := []) (w1 := []) hP hD [0] [] rfl rfl (by decide) (by decide) hk1 hFc hP1 hD1
  clear hk1 hz1 hPc hDc hFc hP1 hD1 hK1 hKc
  generalize H1 = H at hP hS ⊢
  have hP : va_P (dC, dI) cls [] H := hP
  have hD : va_D (fun q : Nat => s.heap.size ≤ q) [] := hD
  obtain rfl := hw
  refine lv_icmp_eq (tgt := 1218) hx hb dL_law_1071 (by decide) (fun c_9 => ?_) (fun c_9 => ?_)
  rotate_left
  · exact (by revert c_9; decide : False).elim
  exact law_tail l C0 hS (Nat.le_of_ble_eq_true rfl) (Nat.le_of_ble_eq_true rfl) (lv_sub hl [3, 0] rfl)
theorem gcase_23_114g : GoodIn lwS wk_moved := goodIn_r _ [528, 495, 529, 0, 1, 2, 3, 4, 5, 6, 7, 8, 9, 10, 11, 12, 13, 14, 118, 119, 120, 121, 122, 123] (by decide +kernel) (by decide +kernel)
theorem gcase_23_114 : GoodIn lwS (wsV RL 114 RX11 yX11_moved wk_moved) := goodIn_app (goodIn_r _ [530, 531, 532, 202] (by decide +kernel) (by decide +kernel)) gcase_23_114g
theorem gcase_23_117g : GoodIn lwS wm_moved := goodIn_r _ [533, 204, 534, 124, 125, 126, 127, 128, 129, 130, 131, 132, 133, 134, 135, 136, 137, 138, 139, 140, 141, 142, 143, 144, 145, 146, 147, 148, 149, 150, 151, 152, 153, 154, 155, 156, 157, 158, 159, 160, 161, 162, 163, 164, 165, 166, 167, 168, 169, 170, 171, 172, 173, 174, 175, 176, 177, 178, 179, 180, 181, 182, 183, 184, 185, 186, 187, 188] (by decide +kernel) (by decide +kernel)
theorem gcase_23_117 : GoodIn lwS (wsV RL 117 RX12 yX12_moved wm_moved) := goodIn_app (goodIn_r _ [535, 536, 537, 210] (by decide +kernel) (by decide +kernel)) gcase_23_117g
set_option maxHeartbeats 4000000 in
set_option maxRecDepth 100000 in
theorem case_23 {p : Program} {e : Env} {s : State} {m : MethodId} {below : List Frame} {meth : Method} {c : Code} (l : Launch) {b : Nat} {xs : Nat → Int32} (C0 : lw_At p s m meth c b 6 xs) (dC : Nat → ClassId) (dI : Nat → Nat → Nat) (mh0 : Nat) (xh0 : Nat) (xsl : Nat) (xwalker_ : Nat) (xrd : Nat) (xmachine_ : Nat) (xtrial_ : Nat) (xdk : Nat) (xsource_ : Nat) (xview_ : Nat) (xspare_ : Nat) (xoutcome_ : Nat) (xoldSources_ : Nat) (xoldViews_ : Nat) (ma1 : Nat) (ma2 : Nat) (ma3 : Nat) (ma4 : Nat) (ma5 : Nat) (ma7 : Nat) (ma8 : Nat) (ma10 : Nat) (ma11 : Nat) (ma12 : Nat) (ma13 : Nat) (ma15 : Nat) (ma16 : Nat) (ma17 : Nat) (ma18 : Nat) (ma19 : Nat) (ma20 : Nat) (ma21 : Nat) (ma22 : Nat) (ma24 : Nat) (ma26 : Nat) (ma27 : Nat) (ma29 : Nat) (ma30 : Nat) (ma31 : Nat) (ma32 : Nat) (ma33 : Nat) (ma35 : Nat) (ma36 : Nat) (ma38 : Nat) (ma50 : Nat) (ma51 : Nat) (ma54 : Nat) (ma55 : Nat) (ma57 : Nat) (ma58 : Nat) (ma59 : Nat) (ma60 : Nat) (ma64 : Nat) {H : Heap} {locs : List Loc} {ls : Array Slot} (hK : va_K (dC, dI) cls [] s) (hP : va_P (dC, dI) cls [(xh0, .inr (11, [.ref xsl, .ref xwalker_, .ref xrd, .ref xmachine_, .ref xtrial_, .ref xdk])), (xdk, .inr (0, [.null, .int (-1), .int 0, .int 0, .int 0, .int 0, .int 0, .int 0, .ref xsource_, .ref xview_, .ref xspare_, .ref xoutcome_, .ref xoldSources_, .ref xoldViews_, .int 0])), (mh0, .inr (12, [.int 0, .ref ma1, .ref ma2, .ref ma3, .ref ma4, .ref ma5, .int 0, .ref ma7, .ref ma8, .int 0, .ref ma10, .ref ma11, .ref ma12, .ref ma13, .int 0, .ref ma15, .ref ma16, .ref ma17, .ref ma18, .ref ma19, .ref ma20, .ref ma21, .ref ma22, .int 0, .ref ma24, .int 0, .ref ma26, .ref ma27, .int 0, .ref ma29, .ref ma30, .ref ma31, .ref ma32, .ref ma33, .int 0, .ref ma35, .ref ma36, .int 0, .ref ma38, .int 0, .int 0, .int 0, .int 0, .int 0, .long 0, .int 0, .int 0, .int (-1), .int (-1), .int 0, .ref ma50, .ref ma51, .int 0, .int 0, .ref ma54, .ref ma55, .int (-1), .ref ma57, .ref ma58, .ref ma59, .ref ma60, .int 0, .int 0, .int 0, .ref ma64]))] H) (hD : va_D (fun q : Nat => s.heap.size ≤ q) [(xh0, .inr (11, [.ref xsl, .ref xwalker_, .ref xrd, .ref xmachine_, .ref xtrial_, .ref xdk])), (xdk, .inr (0, [.null, .int (-1), .int 0, .int 0, .int 0, .int 0, .int 0, .int 0, .ref xsource_, .ref xview_, .ref xspare_, .ref xoutcome_, .ref xoldSources_, .ref xoldViews_, .int 0])), (mh0, .inr (12, [.int 0, .ref ma1, .ref ma2, .ref ma3, .ref ma4, .ref ma5, .int 0, .ref ma7, .ref ma8, .int 0, .ref ma10, .ref ma11, .ref ma12, .ref ma13, .int 0, .ref ma15, .ref ma16, .ref ma17, .ref ma18, .ref ma19, .ref ma20, .ref ma21, .ref ma22, .int 0, .ref ma24, .int 0, .ref ma26, .ref ma27, .int 0, .ref ma29, .ref ma30, .ref ma31, .ref ma32, .ref ma33, .int 0, .ref ma35, .ref ma36, .int 0, .ref ma38, .int 0, .int 0, .int 0, .int 0, .int 0, .long 0, .int 0, .int 0, .int (-1), .int (-1), .int 0, .ref ma50, .ref ma51, .int 0, .int 0, .ref ma54, .ref ma55, .int (-1), .ref ma57, .ref ma58, .ref ma59, .ref ma60, .int 0, .int 0, .int 0, .ref ma64]))]) (hS : va_S (fun q : Nat => s.heap.size ≤ q) s.heap H locs) (hl : lv_has ls 4 [(3, .int 0), (2, .ref mh0), (1, .ref xh0), (0, .ref b)]) : W p l e room_1 s m #[Value.ref b] below meth c H locs 185 1243858 (lw_Z below #[Value.ref b] s) (F0 m 1076 ls []) := by
  obtain ⟨hx, hb, hr, hml, hown0, hts0, hX, hbl, hlocks, hgv⟩ := id C0
  have hown : s.vm.findClass RL = some m.cls := hown0
  have hts : ∀ w ∈ lwS, w.before #[Value.ref b] s = true := fun w h => hts0 w (wsL_law_in w h)
  have hA : ∀ q : Nat, s.heap.size ≤ q → (fun q : Nat => s.heap.size ≤ q) q := fun _ h => h
  have hbA : ¬ (fun q : Nat => s.heap.size ≤ q) b := Nat.not_le.mpr hbl
  refine lv_aload_n hx hb dL_law_1076 rfl (lv_at hl 2 rfl) ?_
  refine lv_aload_n hx hb dL_law_1077 rfl (lv_at hl 3 rfl) ?_
  refine lv_iload_n hx hb dL_law_1078 rfl (lv_at hl 0 rfl) ?_
  refine lv_iconst (v := 1) hx hb dL_law_1079 (by decide) ?_
  refine lv_iadd hx hb dL_law_1080 ?_
  refine lv_topi (fun z_1 ez_1 => ?_)
  obtain rfl : z_1 = (1 : Int32) := ez_1.trans (by decide)
  refine va_sld hx hb hX hbl hbA hS (by unfold vp_in; decide) dL_law_1081 ?_
  have hPc := hP.sub (ws' := [(xh0, .inr (11, [.ref xsl, .ref xwalker_, .ref xrd, .ref xmachine_, .ref xtrial_, .ref xdk])), (xdk, .inr (0, [.null, .int (-1), .int 0, .int 0, .int 0, .int 0, .int 0, .int 0, .ref xsource_, .ref xview_, .ref xspare_, .ref xoutcome_, .ref xoldSources_, .ref xoldViews_, .int 0]))]) [0, 1] rfl
  have hDc := hD.sub (ws' := [(xh0, .inr (11, [.ref xsl, .ref xwalker_, .ref xrd, .ref xmachine_, .ref xtrial_, .ref xdk])), (xdk, .inr (0, [.null, .int (-1), .int 0, .int 0, .int 0, .int 0, .int 0, .int 0, .ref xsource_, .ref xview_, .ref xspare_, .ref xoutcome_, .ref xoldSources_, .ref xoldViews_, .int 0]))]) [0, 1] (by decide) rfl
  have hKc := hK.sub (tys' := []) [] rfl
  have hFc := va_free (wc := [(xh0, .inr (11, [.ref xsl, .ref xwalker_, .ref xrd, .ref xmachine_, .ref xtrial_, .ref xdk])), (xdk, .inr (0, [.null, .int (-1), .int 0, .int 0, .int 0, .int 0, .int 0, .int 0, .ref xsource_, .ref xview_, .ref xspare_, .ref xoutcome_, .ref xoldSources_, .ref xoldViews_, .int 0]))]) hD hS hA [0, 1] rfl
  refine va_calli (va_runV (As := [.int (xs (1 : Int32).toNatClampNeg)]) (rest := []) ⟨hx, hb, hml, hown, hts⟩ (k_moved l dC dI H.size xh0 (xs (1 : Int32).toNatClampNeg) xsl xwalker_ xrd xmachine_ xtrial_ xdk xsource_ xview_ xspare_ xoutcome_ xoldSources_ xoldViews_) (cwV 1 hts gcase_23_114 rfl rfl rfl (by decide +kernel) ⟨Nat.le_of_ble_eq_true rfl, Nat.le_of_ble_eq_true rfl⟩) ⟨fun a U g mk q => by obtain ⟨q0, q1, qP, qK, qD⟩ := q; exact ⟨q0, q1, qP, va_K.moved (u := U) (U := U.calling g mk a) (Vm.Alike.refl U.vm) qK, qD⟩, va_recv hK hP (ci := 11) (q0 := 0) rfl rfl, fun U hU hW => ⟨rfl, by rw [hU], by rw [hU]; exact hPc, va_K.moved hW.alike hKc, hDc.weaken (fun _ _ _ _ => trivial)⟩⟩ rfl rfl hl.1 rfl (lv_room (Nat.le_of_ble_eq_true rfl)) dL_law_1082 ⟨Nat.le_of_ble_eq_true rfl, Nat.le_of_ble_eq_true rfl⟩) hS (fun q _ h => hFc q h) hFc (fun r_3 u t H1 locs ht hvm hw hB hz1 hk1 hS => ?_)
  obtain ⟨hP1, hK1, hD1⟩ := hB
  rw [ht] at hP1
  try dsimp only at hw
  obtain ⟨hP, hD⟩ := va_join (wr := [(mh0, .inr (12, [.int 0, .ref ma1, .ref ma2, .ref ma3, .ref ma4, .ref ma5, .int 0, .ref ma7, .ref ma8, .int 0, .ref ma10, .ref ma11, .ref ma12, .ref ma13, .int 0, .ref ma15, .ref ma16, .ref ma17, .ref ma18, .ref ma19, .ref ma20, .ref ma21, .ref ma22, .int 0, .ref ma24, .int 0, .ref ma26, .ref ma27, .int 0, .ref ma29, .ref ma30, .ref ma31, .ref ma32, .ref ma33, .int 0, .ref ma35, .ref ma36, .int 0, .ref ma38, .int 0, .int 0, .int 0, .int 0, .int 0, .long 0, .int 0, .int 0, .int (-1), .int (-1), .int 0, .ref ma50, .ref ma51, .int 0, .int 0, .ref ma54, .ref ma55, .int (-1), .ref ma57, .ref ma58, .ref ma59, .ref ma60, .int 0, .int 0, .int 0, .ref ma64]))]) (w1 := []) hP hD [0, 1] [2] rfl rfl (by decide) (by decide) hk1 hFc hP1 hD1
  clear hk1 hz1 hPc hDc hFc hP1 hD1 hK1 hKc
  generalize H1 = H at hP hS ⊢
  have hP : va_P (dC, dI) cls [(mh0, .inr (12, [.int 0, .ref ma1, .ref ma2, .ref ma3, .ref ma4, .ref ma5, .int 0, .ref ma7, .ref ma8, .int 0, .ref ma10, .ref ma11, .ref ma12, .ref ma13, .int 0, .ref ma15, .ref ma16, .ref ma17, .ref ma18, .ref ma19, .ref ma20, .ref ma21, .ref ma22, .int 0, .ref ma24, .int 0, .ref ma26, .ref ma27, .int 0, .ref ma29, .ref ma30, .ref ma31, .ref ma32, .ref ma33, .int 0, .ref ma35, .ref ma36, .int 0, .ref ma38, .int 0, .int 0, .int 0, .int 0, .int 0, .long 0, .int 0, .int 0, .int (-1), .int (-1), .int 0, .ref ma50, .ref ma51, .int 0, .int 0, .ref ma54, .ref ma55, .int (-1), .ref ma57, .ref ma58, .ref ma59, .ref ma60, .int 0, .int 0, .int 0, .ref ma64]))] H := hP
  have hD : va_D (fun q : Nat => s.heap.size ≤ q) [(mh0, .inr (12, [.int 0, .ref ma1, .ref ma2, .ref ma3, .ref ma4, .ref ma5, .int 0, .ref ma7, .ref ma8, .int 0, .ref ma10, .ref ma11, .ref ma12, .ref ma13, .int 0, .ref ma15, .ref ma16, .ref ma17, .ref ma18, .ref ma19, .ref ma20, .ref ma21, .ref ma22, .int 0, .ref ma24, .int 0, .ref ma26, .ref ma27, .int 0, .ref ma29, .ref ma30, .ref ma31, .ref ma32, .ref ma33, .int 0, .ref ma35, .ref ma36, .int 0, .ref ma38, .int 0, .int 0, .int 0, .int 0, .int 0, .long 0, .int 0, .int 0, .int (-1), .int (-1), .int 0, .ref ma50, .ref ma51, .int 0, .int 0, .ref ma54, .ref ma55, .int (-1), .ref ma57, .ref ma58, .ref ma59, .ref ma60, .int 0, .int 0, .int 0, .ref ma64]))] := hD
  obtain rfl := hw
  refine lv_aload_n hx hb dL_law_1085 rfl (lv_at hl 1 rfl) ?_
  refine lv_aload_n hx hb dL_law_1086 rfl (lv_at hl 3 rfl) ?_
  refine lv_iload_n hx hb dL_law_1087 rfl (lv_at hl 0 rfl) ?_
  refine lv_iconst (v := 1) hx hb dL_law_1088 (by decide) ?_
  refine lv_iadd hx hb dL_law_1089 ?_
  refine lv_topi (fun z_4 ez_4 => ?_)
  obtain rfl : z_4 = (1 : Int32) := ez_4.trans (by decide)
  refine va_sld hx hb hX hbl hbA hS (by unfold vp_in; decide) dL_law_1090 ?_
  have hPc := hP.sub (ws' := [(mh0, .inr (12, [.int 0, .ref ma1, .ref ma2, .ref ma3, .ref ma4, .ref ma5, .int 0, .ref ma7, .ref ma8, .int 0, .ref ma10, .ref ma11, .ref ma12, .ref ma13, .int 0, .ref ma15, .ref ma16, .ref ma17, .ref ma18, .ref ma19, .ref ma20, .ref ma21, .ref ma22, .int 0, .ref ma24, .int 0, .ref ma26, .ref ma27, .int 0, .ref ma29, .ref ma30, .ref ma31, .ref ma32, .ref ma33, .int 0, .ref ma35, .ref ma36, .int 0, .ref ma38, .int 0, .int 0, .int 0, .int 0, .int 0, .long 0, .int 0, .int 0, .int (-1), .int (-1), .int 0, .ref ma50, .ref ma51, .int 0, .int 0, .ref ma54, .ref ma55, .int (-1), .ref ma57, .ref ma58, .ref ma59, .ref ma60, .int 0, .int 0, .int 0, .ref ma64]))]) [0] rfl
  have hDc := hD.sub (ws' := [(mh0, .inr (12, [.int 0, .ref ma1, .ref ma2, .ref ma3, .ref ma4, .ref ma5, .int 0, .ref ma7, .ref ma8, .int 0, .ref ma10, .ref ma11, .ref ma12, .ref ma13, .int 0, .ref ma15, .ref ma16, .ref ma17, .ref ma18, .ref ma19, .ref ma20, .ref ma21, .ref ma22, .int 0, .ref ma24, .int 0, .ref ma26, .ref ma27, .int 0, .ref ma29, .ref ma30, .ref ma31, .ref ma32, .ref ma33, .int 0, .ref ma35, .ref ma36, .int 0, .ref ma38, .int 0, .int 0, .int 0, .int 0, .int 0, .long 0, .int 0, .int 0, .int (-1), .int (-1), .int 0, .ref ma50, .ref ma51, .int 0, .int 0, .ref ma54, .ref ma55, .int (-1), .ref ma57, .ref ma58, .ref ma59, .ref ma60, .int 0, .int 0, .int 0, .ref ma64]))]) [0] (by decide) rfl
  have hKc := hK.sub (tys' := []) [] rfl
  have hFc := va_free (wc := [(mh0, .inr (12, [.int 0, .ref ma1, .ref ma2, .ref ma3, .ref ma4, .ref ma5, .int 0, .ref ma7, .ref ma8, .int 0, .ref ma10, .ref ma11, .ref ma12, .ref ma13, .int 0, .ref ma15, .ref ma16, .ref ma17, .ref ma18, .ref ma19, .ref ma20, .ref ma21, .ref ma22, .int 0, .ref ma24, .int 0, .ref ma26, .ref ma27, .int 0, .ref ma29, .ref ma30, .ref ma31, .ref ma32, .ref ma33, .int 0, .ref ma35, .ref ma36, .int 0, .ref ma38, .int 0, .int 0, .int 0, .int 0, .int 0, .long 0, .int 0, .int 0, .int (-1), .int (-1), .int 0, .ref ma50, .ref ma51, .int 0, .int 0, .ref ma54, .ref ma55, .int (-1), .ref ma57, .ref ma58, .ref ma59, .ref ma60, .int 0, .int 0, .int 0, .ref ma64]))]) hD hS hA [0] rfl
  refine va_calli (va_runV (As := [.int (xs (1 : Int32).toNatClampNeg)]) (rest := [.int (-1)]) ⟨hx, hb, hml, hown, hts⟩ (m_moved l dC dI H.size mh0 (xs (1 : Int32).toNatClampNeg) ma1 ma2 ma3 ma4 ma5 ma7 ma8 ma10 ma11 ma12 ma13 ma15 ma16 ma17 ma18 ma19 ma20 ma21 ma22 ma24 ma26 ma27 ma29 ma30 ma31 ma32 ma33 ma35 ma36 ma38 ma50 ma51 ma54 ma55 ma57 ma58 ma59 ma60 ma64) (cwV 1 hts gcase_23_117 rfl rfl rfl (by decide +kernel) ⟨Nat.le_of_ble_eq_true rfl, Nat.le_of_ble_eq_true rfl⟩) ⟨fun a U g mk q => by obtain ⟨q0, q1, qP, qK, qD⟩ := q; exact ⟨q0, q1, qP, va_K.moved (u := U) (U := U.calling g mk a) (Vm.Alike.refl U.vm) qK, qD⟩, va_recv hK hP (ci := 12) (q0 := 0) rfl rfl, fun U hU hW => ⟨rfl, by rw [hU], by rw [hU]; exact hPc, va_K.moved hW.alike hKc, hDc.weaken (fun _ _ _ _ => trivial)⟩⟩ rfl rfl hl.1 rfl (lv_room (Nat.le_of_ble_eq_true rfl)) dL_law_1091 ⟨Nat.le_of_ble_eq_true rfl, Nat.le_of_ble_eq_true rfl⟩) hS (fun q _ h => hFc q h) hFc (fun r_6 u t H1 locs ht hvm hw hB hz1 hk1 hS => ?_)
  obtain ⟨hP1, hK1, hD1⟩ := hB
  rw [ht] at hP1
  try dsimp only at hw
  obtain ⟨hP, hD⟩ := va_join (wr := []) (w1 := []) hP hD [0] [] rfl rfl (by decide) (by decide) hk1 hFc hP1 hD1
  clear hk1 hz1 hPc hDc hFc hP1 hD1 hK1 hKc
  generalize H1 = H at hP hS ⊢
  have hP : va_P (dC, dI) cls [] H := hP
  have hD : va_D (fun q : Nat => s.heap.size ≤ q) [] := hD
  obtain rfl := hw
  refine lv_icmp_eq (tgt := 1218) hx hb dL_law_1094 (by decide) (fun c_7 => ?_) (fun c_7 => ?_)
  rotate_left
  · exact (by revert c_7; decide : False).elim
  exact law_tail l C0 hS (Nat.le_of_ble_eq_true rfl) (Nat.le_of_ble_eq_true rfl) (lv_sub hl [3, 0] rfl)
theorem gcase_24_118g : GoodIn lwS wk_join := goodIn_r _ [538, 320, 321, 322, 202, 323, 324, 495, 539, 338, 540, 541, 542, 543, 544, 545, 546, 547, 548, 549, 550, 551, 552, 553, 554, 555, 556, 557, 558, 559, 560, 561, 562, 0, 1, 2, 3, 4, 5, 6, 7, 8, 9, 10, 11, 12, 13, 14, 78, 79, 118, 119, 120, 121, 122, 123] (by decide +kernel) (by decide +kernel)
theorem gcase_24_118 : GoodIn lwS (wsV RL 118 RX11 yX11_join wk_join) := goodIn_app (goodIn_r _ [563, 564, 565, 202] (by decide +kernel) (by decide +kernel)) gcase_24_118g
theorem gcase_24_121g : GoodIn lwS wn_join := goodIn_r _ [566, 204, 343, 344, 345, 210, 346, 347, 216, 217, 218, 219, 567, 568, 569, 570, 267, 571, 572, 573, 574, 575, 576, 348, 577, 578, 579, 580, 124, 125, 126, 127, 128, 129, 130, 131, 132, 133, 134, 135, 136, 137, 138, 139, 140, 141, 142, 143, 144, 145, 146, 147, 148, 149, 150, 151, 152, 153, 154, 155, 156, 157, 158, 159, 160, 161, 162, 163, 164, 165, 166, 167, 168, 169, 170, 171, 172, 173, 174, 175, 176, 177, 178, 179, 180, 181, 182, 183, 184, 185, 186, 187, 188] (by decide +kernel) (by decide +kernel)
theorem gcase_24_121 : GoodIn lwS (wsV RL 121 RX12 yX12_join wn_join) := goodIn_app (goodIn_r _ [581, 582, 583, 210] (by decide +kernel) (by decide +kernel)) gcase_24_121g
set_option maxHeartbeats 4000000 in
set_option maxRecDepth 100000 in
theorem case_24 {p : Program} {e : Env} {s : State} {m : MethodId} {below : List Frame} {meth : Method} {c : Code} (l : Launch) {b : Nat} {xs : Nat → Int32} (C0 : lw_At p s m meth c b 6 xs) (dC : Nat → ClassId) (dI : Nat → Nat → Nat) (mh0 : Nat) (xh0 : Nat) (xsl : Nat) (xwalker_ : Nat) (xrd : Nat) (xmachine_ : Nat) (xtrial_ : Nat) (xdk : Nat) (xcT : ClassId) (xfT : Nat → Option Nat) (xsource_ : Nat) (xview_ : Nat) (xtxs : Nat) (xoutcome_ : Nat) (xoldSources_ : Nat) (xoldViews_ : Nat) (xrs : Nat) (xcs : ClassId) (xfs : Nat → Int32) (ma1 : Nat) (ma2 : Nat) (ma3 : Nat) (ma4 : Nat) (ma5 : Nat) (ma7 : Nat) (ma8 : Nat) (ma10 : Nat) (ma11 : Nat) (ma12 : Nat) (ma13 : Nat) (ma15 : Nat) (ma16 : Nat) (ma17 : Nat) (ma18 : Nat) (ma19 : Nat) (ma20 : Nat) (ma21 : Nat) (ma22 : Nat) (ma24 : Nat) (ma26 : Nat) (ma27 : Nat) (ma29 : Nat) (ma30 : Nat) (ma31 : Nat) (ma32 : Nat) (ma33 : Nat) (ma35 : Nat) (ma36 : Nat) (ma38 : Nat) (ma50 : Nat) (ma51 : Nat) (ma54 : Nat) (ma55 : Nat) (ma57 : Nat) (ma58 : Nat) (ma59 : Nat) (ma60 : Nat) (ma64 : Nat) (mcI : ClassId) (ws : va_W) (tl : List (ClassId × FieldType)) (k0 : Nat) (he0 : ws[k0]? = some (xh0, .inr (11, [.ref xsl, .ref xwalker_, .ref xrd, .ref xmachine_, .ref xtrial_, .ref xdk]))) (k1 : Nat) (he1 : ws[k1]? = some (xsl, .inl (xcT, 8, .inr (.inr (.inr (.inr xfT)))))) (k2 : Nat) (he2 : ws[k2]? = some (xdk, .inr (0, [.null, .int (-1), .int 0, .int 0, .int 0, .int 0, .int 0, .int 0, .ref xsource_, .ref xview_, .ref xtxs, .ref xoutcome_, .ref xoldSources_, .ref xoldViews_, .int 0]))) (k3 : Nat) (he3 : ws[k3]? = some (xtxs, .inr (6, [.ref xrs, .int 0]))) (k4 : Nat) (he4 : ws[k4]? = some (xrs, .inl (xcs, 60, .inl xfs))) (k5 : Nat) (he5 : ws[k5]? = some (mh0, .inr (12, [.int 0, .ref ma1, .ref ma2, .ref ma3, .ref ma4, .ref ma5, .int 0, .ref ma7, .ref ma8, .int 0, .ref ma10, .ref ma11, .ref ma12, .ref ma13, .int 0, .ref ma15, .ref ma16, .ref ma17, .ref ma18, .ref ma19, .ref ma20, .ref ma21, .ref ma22, .int 0, .ref ma24, .int 0, .ref ma26, .ref ma27, .int 0, .ref ma29, .ref ma30, .ref ma31, .ref ma32, .ref ma33, .int 0, .ref ma35, .ref ma36, .int 0, .ref ma38, .int 0, .int 0, .int 0, .int 0, .int 0, .long 0, .int 0, .int 0, .int (-1), .int (-1), .int 0, .ref ma50, .ref ma51, .int 0, .int 0, .ref ma54, .ref ma55, .int (-1), .ref ma57, .ref ma58, .ref ma59, .ref ma60, .int 0, .int 0, .int 0, .ref ma64]))) (k6 : Nat) (he6 : ws[k6]? = some (ma51, .inl (mcI, 8, .inl (fun _ => 0)))) (t0 : Nat) (ht0 : tl[t0]? = some (xcT, .object RX6)) (t1 : Nat) (ht1 : tl[t1]? = some (xcs, .byte)) (t2 : Nat) (ht2 : tl[t2]? = some (mcI, .int)) (hfs0 : ∀ i : Int32, inS i → ∃ (t r : Nat) (cc1 : ClassId) (g1 : Nat → Int32) (k k2 k3 : Nat), xfT i.toNatClampNeg = some t ∧ ws[k]? = some (t, .inr (6, [.ref r, .int 0])) ∧ ws[k2]? = some (r, .inl (cc1, 60, .inl g1)) ∧ tl[k3]? = some (cc1, .byte)) {H : Heap} {locs : List Loc} {ls : Array Slot} (hK : va_K (dC, dI) cls tl s) (hP : va_P (dC, dI) cls ws H) (hD : va_D (fun q : Nat => s.heap.size ≤ q) ws) (hS : va_S (fun q : Nat => s.heap.size ≤ q) s.heap H locs) (hl : lv_has ls 4 [(3, .int 0), (2, .ref mh0), (1, .ref xh0), (0, .ref b)]) : W p l e room_1 s m #[Value.ref b] below meth c H locs 185 1243858 (lw_Z below #[Value.ref b] s) (F0 m 1099 ls []) := by
  obtain ⟨hx, hb, hr, hml, hown0, hts0, hX, hbl, hlocks, hgv⟩ := id C0
  have hown : s.vm.findClass RL = some m.cls := hown0
  have hts : ∀ w ∈ lwS, w.before #[Value.ref b] s = true := fun w h => hts0 w (wsL_law_in w h)
  have hA : ∀ q : Nat, s.heap.size ≤ q → (fun q : Nat => s.heap.size ≤ q) q := fun _ h => h
  have hbA : ¬ (fun q : Nat => s.heap.size ≤ q) b := Nat.not_le.mpr hbl
  refine lv_aload_n hx hb dL_law_1099 rfl (lv_at hl 2 rfl) ?_
  refine lv_aload_n hx hb dL_law_1100 rfl (lv_at hl 3 rfl) ?_
  refine lv_iload_n hx hb dL_law_1101 rfl (lv_at hl 0 rfl) ?_
  refine lv_iconst (v := 1) hx hb dL_law_1102 (by decide) ?_
  refine lv_iadd hx hb dL_law_1103 ?_
  refine lv_topi (fun z_1 ez_1 => ?_)
  obtain rfl : z_1 = (1 : Int32) := ez_1.trans (by decide)
  refine va_sld hx hb hX hbl hbA hS (by unfold vp_in; decide) dL_law_1104 ?_
  refine lv_aload_n hx hb dL_law_1105 rfl (lv_at hl 3 rfl) ?_
  refine lv_iload_n hx hb dL_law_1106 rfl (lv_at hl 0 rfl) ?_
  refine lv_iconst (v := 2) hx hb dL_law_1107 (by decide) ?_
  refine lv_iadd hx hb dL_law_1108 ?_
  refine lv_topi (fun z_2 ez_2 => ?_)
  obtain rfl : z_2 = (2 : Int32) := ez_2.trans (by decide)
  refine va_sld hx hb hX hbl hbA hS (by unfold vp_in; decide) dL_law_1109 ?_
  refine lv_aload_n hx hb dL_law_1110 rfl (lv_at hl 3 rfl) ?_
  refine lv_iload_n hx hb dL_law_1111 rfl (lv_at hl 0 rfl) ?_
  refine lv_iconst (v := 3) hx hb dL_law_1112 (by decide) ?_
  refine lv_iadd hx hb dL_law_1113 ?_
  refine lv_topi (fun z_3 ez_3 => ?_)
  obtain rfl : z_3 = (3 : Int32) := ez_3.trans (by decide)
  refine va_sld hx hb hX hbl hbA hS (by unfold vp_in; decide) dL_law_1114 ?_
  have hFc := zFree hD hS hA
  refine va_calli (va_runV (As := [.int (xs (1 : Int32).toNatClampNeg), .int (xs (2 : Int32).toNatClampNeg), .int (xs (3 : Int32).toNatClampNeg)]) (rest := []) ⟨hx, hb, hml, hown, hts⟩ (k_join l dC dI H.size xh0 (xs (1 : Int32).toNatClampNeg) (xs (2 : Int32).toNatClampNeg) (xs (3 : Int32).toNatClampNeg) xsl xwalker_ xrd xmachine_ xtrial_ xdk xcT xfT xsource_ xview_ xtxs xoutcome_ xoldSources_ xoldViews_ xrs xcs xfs ws tl k0 he0 k1 he1 k2 he2 k3 he3 k4 he4 t0 ht0 t1 ht1 hfs0) (cwV 3 hts gcase_24_118 rfl rfl rfl (by decide +kernel) ⟨Nat.le_of_ble_eq_true rfl, Nat.le_of_ble_eq_true rfl⟩) ⟨fun a U g mk q => by obtain ⟨q0, q1, qP, qK, qD⟩ := q; exact ⟨q0, q1, qP, va_K.moved (u := U) (U := U.calling g mk a) (Vm.Alike.refl U.vm) qK, qD⟩, va_recv hK hP (ci := 11) (q0 := k0) rfl he0, fun U hU hW => ⟨rfl, by rw [hU], by rw [hU]; exact hP, va_K.moved hW.alike hK, hD.weaken (fun _ _ _ _ => trivial)⟩⟩ rfl rfl hl.1 rfl (lv_room (Nat.le_of_ble_eq_true rfl)) dL_law_1115 ⟨Nat.le_of_ble_eq_true rfl, Nat.le_of_ble_eq_true rfl⟩) hS (fun q _ h => hFc q h) hFc (fun r_4 u t H1 locs ht hvm hw hB hz1 hk1 hS => ?_)
  obtain ⟨hP, hK1, hD1⟩ := hB
  rw [ht] at hP
  try dsimp only at hw
  clear hk1 hz1 hFc hD1 hK1
  generalize H1 = H at hP hS ⊢
  obtain rfl := hw
  refine lv_aload_n hx hb dL_law_1118 rfl (lv_at hl 1 rfl) ?_
  refine lv_aload_n hx hb dL_law_1119 rfl (lv_at hl 3 rfl) ?_
  refine lv_iload_n hx hb dL_law_1120 rfl (lv_at hl 0 rfl) ?_
  refine lv_iconst (v := 1) hx hb dL_law_1121 (by decide) ?_
  refine lv_iadd hx hb dL_law_1122 ?_
  refine lv_topi (fun z_5 ez_5 => ?_)
  obtain rfl : z_5 = (1 : Int32) := ez_5.trans (by decide)
  refine va_sld hx hb hX hbl hbA hS (by unfold vp_in; decide) dL_law_1123 ?_
  refine lv_aload_n hx hb dL_law_1124 rfl (lv_at hl 3 rfl) ?_
  refine lv_iload_n hx hb dL_law_1125 rfl (lv_at hl 0 rfl) ?_
  refine lv_iconst (v := 2) hx hb dL_law_1126 (by decide) ?_
  refine lv_iadd hx hb dL_law_1127 ?_
  refine lv_topi (fun z_6 ez_6 => ?_)
  obtain rfl : z_6 = (2 : Int32) := ez_6.trans (by decide)
  refine va_sld hx hb hX hbl hbA hS (by unfold vp_in; decide) dL_law_1128 ?_
  refine lv_aload_n hx hb dL_law_1129 rfl (lv_at hl 3 rfl) ?_
  refine lv_iload_n hx hb dL_law_1130 rfl (lv_at hl 0 rfl) ?_
  refine lv_iconst (v := 3) hx hb dL_law_1131 (by decide) ?_
  refine lv_iadd hx hb dL_law_1132 ?_
  refine lv_topi (fun z_7 ez_7 => ?_)
  obtain rfl : z_7 = (3 : Int32) := ez_7.trans (by decide)
  refine va_sld hx hb hX hbl hbA hS (by unfold vp_in; decide) dL_law_1133 ?_
  have hFc := zFree hD hS hA
  refine va_calli (va_runV (As := [.int (xs (1 : Int32).toNatClampNeg), .int (xs (2 : Int32).toNatClampNeg), .int (xs (3 : Int32).toNatClampNeg)]) (rest := [.int (sp_join (xs (1 : Int32).toNatClampNeg) (xs (2 : Int32).toNatClampNeg) (xs (3 : Int32).toNatClampNeg))]) ⟨hx, hb, hml, hown, hts⟩ (n_join l dC dI H.size mh0 (xs (1 : Int32).toNatClampNeg) (xs (2 : Int32).toNatClampNeg) (xs (3 : Int32).toNatClampNeg) ma1 ma2 ma3 ma4 ma5 ma7 ma8 ma10 ma11 ma12 ma13 ma15 ma16 ma17 ma18 ma19 ma20 ma21 ma22 ma24 ma26 ma27 ma29 ma30 ma31 ma32 ma33 ma35 ma36 ma38 ma50 ma51 ma54 ma55 ma57 ma58 ma59 ma60 ma64 mcI ws tl k5 he5 k6 he6 t2 ht2) (cwV 3 hts gcase_24_121 rfl rfl rfl (by decide +kernel) ⟨Nat.le_of_ble_eq_true rfl, Nat.le_of_ble_eq_true rfl⟩) ⟨fun a U g mk q => by obtain ⟨q0, q1, qP, qK, qD⟩ := q; exact ⟨q0, q1, qP, va_K.moved (u := U) (U := U.calling g mk a) (Vm.Alike.refl U.vm) qK, qD⟩, va_recv hK hP (ci := 12) (q0 := k5) rfl he5, fun U hU hW => ⟨rfl, by rw [hU], by rw [hU]; exact hP, va_K.moved hW.alike hK, hD.weaken (fun _ _ _ _ => trivial)⟩⟩ rfl rfl hl.1 rfl (lv_room (Nat.le_of_ble_eq_true rfl)) dL_law_1134 ⟨Nat.le_of_ble_eq_true rfl, Nat.le_of_ble_eq_true rfl⟩) hS (fun q _ h => hFc q h) hFc (fun r_8 u t H1 locs ht hvm hw hB hz1 hk1 hS => ?_)
  obtain ⟨hP, hK1, hD1⟩ := hB
  rw [ht] at hP
  try dsimp only at hw
  clear hk1 hz1 hFc hD1 hK1
  generalize H1 = H at hP hS ⊢
  obtain rfl := hw
  refine lv_icmp_eq (tgt := 1218) hx hb dL_law_1137 (by decide) (fun c_9 => ?_) (fun c_9 => ?_)
  rotate_left
  · exact absurd rfl c_9
  exact law_tail l C0 hS (Nat.le_of_ble_eq_true rfl) (Nat.le_of_ble_eq_true rfl) (lv_sub hl [3, 0] rfl)
theorem gcase_25_122g : GoodIn lwS wk_cut := goodIn_r _ [584, 320, 321, 322, 202, 323, 324, 585, 546, 547, 543, 548, 549, 586, 587, 560, 561, 562, 550, 551, 552, 553, 554, 338, 78, 79, 118, 119, 120, 121, 122, 123] (by decide +kernel) (by decide +kernel)
theorem gcase_25_122 : GoodIn lwS (wsV RL 122 RX11 yX11_cut wk_cut) := goodIn_app (goodIn_r _ [588, 589, 590, 202] (by decide +kernel) (by decide +kernel)) gcase_25_122g
theorem gcase_25_125g : GoodIn lwS wn_cut := goodIn_r _ [591, 204, 343, 344, 345, 210, 346, 347, 216, 217, 218, 219, 348, 567, 568, 569, 570, 267, 571, 572, 573, 574, 575, 576, 592, 593, 594, 595, 577, 578, 579, 580, 124, 125, 126, 127, 128, 129, 130, 131, 132, 133, 134, 135, 136, 137, 138, 139, 140, 141, 142, 143, 144, 145, 146, 147, 148, 149, 150, 151, 152, 153, 154, 155, 156, 157, 158, 159, 160, 161, 162, 163, 164, 165, 166, 167, 168, 169, 170, 171, 172, 173, 174, 175, 176, 177, 178, 179, 180, 181, 182, 183, 184, 185, 186, 187, 188] (by decide +kernel) (by decide +kernel)
theorem gcase_25_125 : GoodIn lwS (wsV RL 125 RX12 yX12_cut wn_cut) := goodIn_app (goodIn_r _ [596, 597, 598, 210] (by decide +kernel) (by decide +kernel)) gcase_25_125g
set_option maxHeartbeats 4000000 in
set_option maxRecDepth 100000 in
theorem case_25 {p : Program} {e : Env} {s : State} {m : MethodId} {below : List Frame} {meth : Method} {c : Code} (l : Launch) {b : Nat} {xs : Nat → Int32} (C0 : lw_At p s m meth c b 6 xs) (dC : Nat → ClassId) (dI : Nat → Nat → Nat) (mh0 : Nat) (xh0 : Nat) (xsl : Nat) (xwalker_ : Nat) (xrd : Nat) (xmachine_ : Nat) (xtrial_ : Nat) (xdk : Nat) (xcT : ClassId) (xfT : Nat → Option Nat) (ma1 : Nat) (ma2 : Nat) (ma3 : Nat) (ma4 : Nat) (ma5 : Nat) (ma7 : Nat) (ma8 : Nat) (ma10 : Nat) (ma11 : Nat) (ma12 : Nat) (ma13 : Nat) (ma15 : Nat) (ma16 : Nat) (ma17 : Nat) (ma18 : Nat) (ma19 : Nat) (ma20 : Nat) (ma21 : Nat) (ma22 : Nat) (ma24 : Nat) (ma26 : Nat) (ma27 : Nat) (ma29 : Nat) (ma30 : Nat) (ma31 : Nat) (ma32 : Nat) (ma33 : Nat) (ma35 : Nat) (ma36 : Nat) (ma38 : Nat) (ma50 : Nat) (ma51 : Nat) (ma54 : Nat) (ma55 : Nat) (ma57 : Nat) (ma58 : Nat) (ma59 : Nat) (ma60 : Nat) (ma64 : Nat) (mcI : ClassId) (ws : va_W) (tl : List (ClassId × FieldType)) (k0 : Nat) (he0 : ws[k0]? = some (xh0, .inr (11, [.ref xsl, .ref xwalker_, .ref xrd, .ref xmachine_, .ref xtrial_, .ref xdk]))) (k1 : Nat) (he1 : ws[k1]? = some (xsl, .inl (xcT, 8, .inr (.inr (.inr (.inr xfT)))))) (k2 : Nat) (he2 : ws[k2]? = some (mh0, .inr (12, [.int 0, .ref ma1, .ref ma2, .ref ma3, .ref ma4, .ref ma5, .int 0, .ref ma7, .ref ma8, .int 0, .ref ma10, .ref ma11, .ref ma12, .ref ma13, .int 0, .ref ma15, .ref ma16, .ref ma17, .ref ma18, .ref ma19, .ref ma20, .ref ma21, .ref ma22, .int 0, .ref ma24, .int 0, .ref ma26, .ref ma27, .int 0, .ref ma29, .ref ma30, .ref ma31, .ref ma32, .ref ma33, .int 0, .ref ma35, .ref ma36, .int 0, .ref ma38, .int 0, .int 0, .int 0, .int 0, .int 0, .long 0, .int 0, .int 0, .int (-1), .int (-1), .int 0, .ref ma50, .ref ma51, .int 0, .int 0, .ref ma54, .ref ma55, .int (-1), .ref ma57, .ref ma58, .ref ma59, .ref ma60, .int 0, .int 0, .int 0, .ref ma64]))) (k3 : Nat) (he3 : ws[k3]? = some (ma51, .inl (mcI, 8, .inl (fun _ => 0)))) (t0 : Nat) (ht0 : tl[t0]? = some (xcT, .object RX6)) (t1 : Nat) (ht1 : tl[t1]? = some (mcI, .int)) (hfs0 : ∀ i : Int32, inS i → ∃ (t r : Nat) (cc1 : ClassId) (g1 : Nat → Int32) (k k2 k3 : Nat), xfT i.toNatClampNeg = some t ∧ ws[k]? = some (t, .inr (6, [.ref r, .int 0])) ∧ ws[k2]? = some (r, .inl (cc1, 60, .inl g1)) ∧ tl[k3]? = some (cc1, .byte)) {H : Heap} {locs : List Loc} {ls : Array Slot} (hK : va_K (dC, dI) cls tl s) (hP : va_P (dC, dI) cls ws H) (hD : va_D (fun q : Nat => s.heap.size ≤ q) ws) (hS : va_S (fun q : Nat => s.heap.size ≤ q) s.heap H locs) (hl : lv_has ls 4 [(3, .int 0), (2, .ref mh0), (1, .ref xh0), (0, .ref b)]) : W p l e room_1 s m #[Value.ref b] below meth c H locs 185 1243858 (lw_Z below #[Value.ref b] s) (F0 m 1142 ls []) := by
  obtain ⟨hx, hb, hr, hml, hown0, hts0, hX, hbl, hlocks, hgv⟩ := id C0
  have hown : s.vm.findClass RL = some m.cls := hown0
  have hts : ∀ w ∈ lwS, w.before #[Value.ref b] s = true := fun w h => hts0 w (wsL_law_in w h)
  have hA : ∀ q : Nat, s.heap.size ≤ q → (fun q : Nat => s.heap.size ≤ q) q := fun _ h => h
  have hbA : ¬ (fun q : Nat => s.heap.size ≤ q) b := Nat.not_le.mpr hbl
  refine lv_aload_n hx hb dL_law_1142 rfl (lv_at hl 2 rfl) ?_
  refine lv_aload_n hx hb dL_law_1143 rfl (lv_at hl 3 rfl) ?_
  refine lv_iload_n hx hb dL_law_1144 rfl (lv_at hl 0 rfl) ?_
  refine lv_iconst (v := 1) hx hb dL_law_1145 (by decide) ?_
  refine lv_iadd hx hb dL_law_1146 ?_
  refine lv_topi (fun z_1 ez_1 => ?_)
  obtain rfl : z_1 = (1 : Int32) := ez_1.trans (by decide)
  refine va_sld hx hb hX hbl hbA hS (by unfold vp_in; decide) dL_law_1147 ?_
  refine lv_aload_n hx hb dL_law_1148 rfl (lv_at hl 3 rfl) ?_
  refine lv_iload_n hx hb dL_law_1149 rfl (lv_at hl 0 rfl) ?_
  refine lv_iconst (v := 2) hx hb dL_law_1150 (by decide) ?_
  refine lv_iadd hx hb dL_law_1151 ?_
  refine lv_topi (fun z_2 ez_2 => ?_)
  obtain rfl : z_2 = (2 : Int32) := ez_2.trans (by decide)
  refine va_sld hx hb hX hbl hbA hS (by unfold vp_in; decide) dL_law_1152 ?_
  refine lv_aload_n hx hb dL_law_1153 rfl (lv_at hl 3 rfl) ?_
  refine lv_iload_n hx hb dL_law_1154 rfl (lv_at hl 0 rfl) ?_
  refine lv_iconst (v := 3) hx hb dL_law_1155 (by decide) ?_
  refine lv_iadd hx hb dL_law_1156 ?_
  refine lv_topi (fun z_3 ez_3 => ?_)
  obtain rfl : z_3 = (3 : Int32) := ez_3.trans (by decide)
  refine va_sld hx hb hX hbl hbA hS (by unfold vp_in; decide) dL_law_1157 ?_
  refine lv_aload_n hx hb dL_law_1158 rfl (lv_at hl 3 rfl) ?_
  refine lv_iload_n hx hb dL_law_1159 rfl (lv_at hl 0 rfl) ?_
  refine lv_iconst (v := 4) hx hb dL_law_1160 (by decide) ?_
  refine lv_iadd hx hb dL_law_1161 ?_
  refine lv_topi (fun z_4 ez_4 => ?_)
  obtain rfl : z_4 = (4 : Int32) := ez_4.trans (by decide)
  refine va_sld hx hb hX hbl hbA hS (by unfold vp_in; decide) dL_law_1162 ?_
  have hFc := zFree hD hS hA
  refine va_calli (va_runV (As := [.int (xs (1 : Int32).toNatClampNeg), .int (xs (2 : Int32).toNatClampNeg), .int (xs (3 : Int32).toNatClampNeg), .int (xs (4 : Int32).toNatClampNeg)]) (rest := []) ⟨hx, hb, hml, hown, hts⟩ (k_cut l dC dI H.size xh0 (xs (1 : Int32).toNatClampNeg) (xs (2 : Int32).toNatClampNeg) (xs (3 : Int32).toNatClampNeg) (xs (4 : Int32).toNatClampNeg) xsl xwalker_ xrd xmachine_ xtrial_ xdk xcT xfT ws tl k0 he0 k1 he1 t0 ht0 hfs0) (cwV 4 hts gcase_25_122 rfl rfl rfl (by decide +kernel) ⟨Nat.le_of_ble_eq_true rfl, Nat.le_of_ble_eq_true rfl⟩) ⟨fun a U g mk q => by obtain ⟨q0, q1, qP, qK, qD⟩ := q; exact ⟨q0, q1, qP, va_K.moved (u := U) (U := U.calling g mk a) (Vm.Alike.refl U.vm) qK, qD⟩, va_recv hK hP (ci := 11) (q0 := k0) rfl he0, fun U hU hW => ⟨rfl, by rw [hU], by rw [hU]; exact hP, va_K.moved hW.alike hK, hD.weaken (fun _ _ _ _ => trivial)⟩⟩ rfl rfl hl.1 rfl (lv_room (Nat.le_of_ble_eq_true rfl)) dL_law_1163 ⟨Nat.le_of_ble_eq_true rfl, Nat.le_of_ble_eq_true rfl⟩) hS (fun q _ h => hFc q h) hFc (fun r_5 u t H1 locs ht hvm hw hB hz1 hk1 hS => ?_)
  obtain ⟨hP, hK1, hD1⟩ := hB
  rw [ht] at hP
  try dsimp only at hw
  clear hk1 hz1 hFc hD1 hK1
  generalize H1 = H at hP hS ⊢
  obtain rfl := hw
  refine lv_aload_n hx hb dL_law_1166 rfl (lv_at hl 1 rfl) ?_
  refine lv_aload_n hx hb dL_law_1167 rfl (lv_at hl 3 rfl) ?_
  refine lv_iload_n hx hb dL_law_1168 rfl (lv_at hl 0 rfl) ?_
  refine lv_iconst (v := 1) hx hb dL_law_1169 (by decide) ?_
  refine lv_iadd hx hb dL_law_1170 ?_
  refine lv_topi (fun z_6 ez_6 => ?_)
  obtain rfl : z_6 = (1 : Int32) := ez_6.trans (by decide)
  refine va_sld hx hb hX hbl hbA hS (by unfold vp_in; decide) dL_law_1171 ?_
  refine lv_aload_n hx hb dL_law_1172 rfl (lv_at hl 3 rfl) ?_
  refine lv_iload_n hx hb dL_law_1173 rfl (lv_at hl 0 rfl) ?_
  refine lv_iconst (v := 2) hx hb dL_law_1174 (by decide) ?_
  refine lv_iadd hx hb dL_law_1175 ?_
  refine lv_topi (fun z_7 ez_7 => ?_)
  obtain rfl : z_7 = (2 : Int32) := ez_7.trans (by decide)
  refine va_sld hx hb hX hbl hbA hS (by unfold vp_in; decide) dL_law_1176 ?_
  refine lv_aload_n hx hb dL_law_1177 rfl (lv_at hl 3 rfl) ?_
  refine lv_iload_n hx hb dL_law_1178 rfl (lv_at hl 0 rfl) ?_
  refine lv_iconst (v := 3) hx hb dL_law_1179 (by decide) ?_
  refine lv_iadd hx hb dL_law_1180 ?_
  refine lv_topi (fun z_8 ez_8 => ?_)
  obtain rfl : z_8 = (3 : Int32) := ez_8.trans (by decide)
  refine va_sld hx hb hX hbl hbA hS (by unfold vp_in; decide) dL_law_1181 ?_
  refine lv_aload_n hx hb dL_law_1182 rfl (lv_at hl 3 rfl) ?_
  refine lv_iload_n hx hb dL_law_1183 rfl (lv_at hl 0 rfl) ?_
  refine lv_iconst (v := 4) hx hb dL_law_1184 (by decide) ?_
  refine lv_iadd hx hb dL_law_1185 ?_
  refine lv_topi (fun z_9 ez_9 => ?_)
  obtain rfl : z_9 = (4 : Int32) := ez_9.trans (by decide)
  refine va_sld hx hb hX hbl hbA hS (by unfold vp_in; decide) dL_law_1186 ?_
  have hFc := zFree hD hS hA
  refine va_calli (va_runV (As := [.int (xs (1 : Int32).toNatClampNeg), .int (xs (2 : Int32).toNatClampNeg), .int (xs (3 : Int32).toNatClampNeg), .int (xs (4 : Int32).toNatClampNeg)]) (rest := [.int (sp_cut (xs (1 : Int32).toNatClampNeg) (xs (2 : Int32).toNatClampNeg) (xs (3 : Int32).toNatClampNeg) (xs (4 : Int32).toNatClampNeg))]) ⟨hx, hb, hml, hown, hts⟩ (n_cut l dC dI H.size mh0 (xs (1 : Int32).toNatClampNeg) (xs (2 : Int32).toNatClampNeg) (xs (3 : Int32).toNatClampNeg) (xs (4 : Int32).toNatClampNeg) ma1 ma2 ma3 ma4 ma5 ma7 ma8 ma10 ma11 ma12 ma13 ma15 ma16 ma17 ma18 ma19 ma20 ma21 ma22 ma24 ma26 ma27 ma29 ma30 ma31 ma32 ma33 ma35 ma36 ma38 ma50 ma51 ma54 ma55 ma57 ma58 ma59 ma60 ma64 mcI ws tl k2 he2 k3 he3 t1 ht1) (cwV 4 hts gcase_25_125 rfl rfl rfl (by decide +kernel) ⟨Nat.le_of_ble_eq_true rfl, Nat.le_of_ble_eq_true rfl⟩) ⟨fun a U g mk q => by obtain ⟨q0, q1, qP, qK, qD⟩ := q; exact ⟨q0, q1, qP, va_K.moved (u := U) (U := U.calling g mk a) (Vm.Alike.refl U.vm) qK, qD⟩, va_recv hK hP (ci := 12) (q0 := k2) rfl he2, fun U hU hW => ⟨rfl, by rw [hU], by rw [hU]; exact hP, va_K.moved hW.alike hK, hD.weaken (fun _ _ _ _ => trivial)⟩⟩ rfl rfl hl.1 rfl (lv_room (Nat.le_of_ble_eq_true rfl)) dL_law_1187 ⟨Nat.le_of_ble_eq_true rfl, Nat.le_of_ble_eq_true rfl⟩) hS (fun q _ h => hFc q h) hFc (fun r_10 u t H1 locs ht hvm hw hB hz1 hk1 hS => ?_)
  obtain ⟨hP, hK1, hD1⟩ := hB
  rw [ht] at hP
  try dsimp only at hw
  clear hk1 hz1 hFc hD1 hK1
  generalize H1 = H at hP hS ⊢
  obtain rfl := hw
  refine lv_icmp_eq (tgt := 1218) hx hb dL_law_1190 (by decide) (fun c_11 => ?_) (fun c_11 => ?_)
  rotate_left
  · exact absurd rfl c_11
  exact law_tail l C0 hS (Nat.le_of_ble_eq_true rfl) (Nat.le_of_ble_eq_true rfl) (lv_sub hl [3, 0] rfl)
theorem gcase_26_126g : GoodIn lwS wk_look := goodIn_r _ [599, 190, 369, 191, 495, 600, 601, 602, 0, 1, 2, 3, 4, 5, 6, 7, 8, 9, 10, 11, 12, 13, 14, 57, 58, 59, 60, 61, 62, 63, 64, 65, 66, 67, 68, 69, 70, 118, 119, 120, 121, 122, 123] (by decide +kernel) (by decide +kernel)
theorem gcase_26_126 : GoodIn lwS (wsV RL 126 RX11 yX11_look wk_look) := goodIn_app (goodIn_r _ [603, 604, 605, 202] (by decide +kernel) (by decide +kernel)) gcase_26_126g
theorem gcase_26_129g : GoodIn lwS wm_look := goodIn_r _ [606, 204, 292, 205, 501, 516, 607, 124, 125, 126, 127, 128, 129, 130, 131, 132, 133, 134, 135, 136, 137, 138, 139, 140, 141, 142, 143, 144, 145, 146, 147, 148, 149, 150, 151, 152, 153, 154, 155, 156, 157, 158, 159, 160, 161, 162, 163, 164, 165, 166, 167, 168, 169, 170, 171, 172, 173, 174, 175, 176, 177, 178, 179, 180, 181, 182, 183, 184, 185, 186, 187, 188] (by decide +kernel) (by decide +kernel)
theorem gcase_26_129 : GoodIn lwS (wsV RL 129 RX12 yX12_look wm_look) := goodIn_app (goodIn_r _ [608, 609, 610, 210] (by decide +kernel) (by decide +kernel)) gcase_26_129g
set_option maxHeartbeats 4000000 in
set_option maxRecDepth 100000 in
theorem case_26 {p : Program} {e : Env} {s : State} {m : MethodId} {below : List Frame} {meth : Method} {c : Code} (l : Launch) {b : Nat} {xs : Nat → Int32} (C0 : lw_At p s m meth c b 6 xs) (dC : Nat → ClassId) (dI : Nat → Nat → Nat) (mh0 : Nat) (xh0 : Nat) (xsl : Nat) (xwalker_ : Nat) (xrd : Nat) (xmachine_ : Nat) (xtrial_ : Nat) (xdk : Nat) (xlenses_ : Nat) (xtp : Nat) (xnames_ : Nat) (xquoted_ : Nat) (xlinks_ : Nat) (xwalker2_ : Nat) (xsource_ : Nat) (xview_ : Nat) (xspare_ : Nat) (xoutcome_ : Nat) (xoldSources_ : Nat) (xoldViews_ : Nat) (ma1 : Nat) (ma2 : Nat) (ma3 : Nat) (ma4 : Nat) (ma5 : Nat) (ma7 : Nat) (ma8 : Nat) (ma10 : Nat) (ma11 : Nat) (ma12 : Nat) (ma13 : Nat) (ma15 : Nat) (ma16 : Nat) (ma17 : Nat) (ma18 : Nat) (ma19 : Nat) (ma20 : Nat) (ma21 : Nat) (ma22 : Nat) (ma24 : Nat) (ma26 : Nat) (ma27 : Nat) (ma29 : Nat) (ma30 : Nat) (ma31 : Nat) (ma32 : Nat) (ma33 : Nat) (ma35 : Nat) (ma36 : Nat) (ma38 : Nat) (ma50 : Nat) (ma51 : Nat) (ma54 : Nat) (ma55 : Nat) (ma57 : Nat) (ma58 : Nat) (ma59 : Nat) (ma60 : Nat) (ma64 : Nat) {H : Heap} {locs : List Loc} {ls : Array Slot} (hK : va_K (dC, dI) cls [] s) (hP : va_P (dC, dI) cls [(xh0, .inr (11, [.ref xsl, .ref xwalker_, .ref xrd, .ref xmachine_, .ref xtrial_, .ref xdk])), (xrd, .inr (4, [.ref xlenses_, .int 0, .int 0, .int 0, .int (-1), .int (-1), .ref xtp, .ref xnames_, .ref xquoted_, .ref xlinks_, .ref xwalker2_, .int 0, .int 0, .int 0])), (xdk, .inr (0, [.null, .int (-1), .int 0, .int 0, .int 0, .int 0, .int 0, .int 0, .ref xsource_, .ref xview_, .ref xspare_, .ref xoutcome_, .ref xoldSources_, .ref xoldViews_, .int 0])), (mh0, .inr (12, [.int 0, .ref ma1, .ref ma2, .ref ma3, .ref ma4, .ref ma5, .int 0, .ref ma7, .ref ma8, .int 0, .ref ma10, .ref ma11, .ref ma12, .ref ma13, .int 0, .ref ma15, .ref ma16, .ref ma17, .ref ma18, .ref ma19, .ref ma20, .ref ma21, .ref ma22, .int 0, .ref ma24, .int 0, .ref ma26, .ref ma27, .int 0, .ref ma29, .ref ma30, .ref ma31, .ref ma32, .ref ma33, .int 0, .ref ma35, .ref ma36, .int 0, .ref ma38, .int 0, .int 0, .int 0, .int 0, .int 0, .long 0, .int 0, .int 0, .int (-1), .int (-1), .int 0, .ref ma50, .ref ma51, .int 0, .int 0, .ref ma54, .ref ma55, .int (-1), .ref ma57, .ref ma58, .ref ma59, .ref ma60, .int 0, .int 0, .int 0, .ref ma64]))] H) (hD : va_D (fun q : Nat => s.heap.size ≤ q) [(xh0, .inr (11, [.ref xsl, .ref xwalker_, .ref xrd, .ref xmachine_, .ref xtrial_, .ref xdk])), (xrd, .inr (4, [.ref xlenses_, .int 0, .int 0, .int 0, .int (-1), .int (-1), .ref xtp, .ref xnames_, .ref xquoted_, .ref xlinks_, .ref xwalker2_, .int 0, .int 0, .int 0])), (xdk, .inr (0, [.null, .int (-1), .int 0, .int 0, .int 0, .int 0, .int 0, .int 0, .ref xsource_, .ref xview_, .ref xspare_, .ref xoutcome_, .ref xoldSources_, .ref xoldViews_, .int 0])), (mh0, .inr (12, [.int 0, .ref ma1, .ref ma2, .ref ma3, .ref ma4, .ref ma5, .int 0, .ref ma7, .ref ma8, .int 0, .ref ma10, .ref ma11, .ref ma12, .ref ma13, .int 0, .ref ma15, .ref ma16, .ref ma17, .ref ma18, .ref ma19, .ref ma20, .ref ma21, .ref ma22, .int 0, .ref ma24, .int 0, .ref ma26, .ref ma27, .int 0, .ref ma29, .ref ma30, .ref ma31, .ref ma32, .ref ma33, .int 0, .ref ma35, .ref ma36, .int 0, .ref ma38, .int 0, .int 0, .int 0, .int 0, .int 0, .long 0, .int 0, .int 0, .int (-1), .int (-1), .int 0, .ref ma50, .ref ma51, .int 0, .int 0, .ref ma54, .ref ma55, .int (-1), .ref ma57, .ref ma58, .ref ma59, .ref ma60, .int 0, .int 0, .int 0, .ref ma64]))]) (hS : va_S (fun q : Nat => s.heap.size ≤ q) s.heap H locs) (hl : lv_has ls 4 [(3, .int 0), (2, .ref mh0), (1, .ref xh0), (0, .ref b)]) : W p l e room_1 s m #[Value.ref b] below meth c H locs 185 1243858 (lw_Z below #[Value.ref b] s) (F0 m 1195 ls []) := by
  obtain ⟨hx, hb, hr, hml, hown0, hts0, hX, hbl, hlocks, hgv⟩ := id C0
  have hown : s.vm.findClass RL = some m.cls := hown0
  have hts : ∀ w ∈ lwS, w.before #[Value.ref b] s = true := fun w h => hts0 w (wsL_law_in w h)
  have hA : ∀ q : Nat, s.heap.size ≤ q → (fun q : Nat => s.heap.size ≤ q) q := fun _ h => h
  have hbA : ¬ (fun q : Nat => s.heap.size ≤ q) b := Nat.not_le.mpr hbl
  refine lv_aload_n hx hb dL_law_1195 rfl (lv_at hl 2 rfl) ?_
  refine lv_aload_n hx hb dL_law_1196 rfl (lv_at hl 3 rfl) ?_
  refine lv_iload_n hx hb dL_law_1197 rfl (lv_at hl 0 rfl) ?_
  refine lv_iconst (v := 1) hx hb dL_law_1198 (by decide) ?_
  refine lv_iadd hx hb dL_law_1199 ?_
  refine lv_topi (fun z_1 ez_1 => ?_)
  obtain rfl : z_1 = (1 : Int32) := ez_1.trans (by decide)
  refine va_sld hx hb hX hbl hbA hS (by unfold vp_in; decide) dL_law_1200 ?_
  have hPc := hP.sub (ws' := [(xh0, .inr (11, [.ref xsl, .ref xwalker_, .ref xrd, .ref xmachine_, .ref xtrial_, .ref xdk])), (xrd, .inr (4, [.ref xlenses_, .int 0, .int 0, .int 0, .int (-1), .int (-1), .ref xtp, .ref xnames_, .ref xquoted_, .ref xlinks_, .ref xwalker2_, .int 0, .int 0, .int 0])), (xdk, .inr (0, [.null, .int (-1), .int 0, .int 0, .int 0, .int 0, .int 0, .int 0, .ref xsource_, .ref xview_, .ref xspare_, .ref xoutcome_, .ref xoldSources_, .ref xoldViews_, .int 0]))]) [0, 1, 2] rfl
  have hDc := hD.sub (ws' := [(xh0, .inr (11, [.ref xsl, .ref xwalker_, .ref xrd, .ref xmachine_, .ref xtrial_, .ref xdk])), (xrd, .inr (4, [.ref xlenses_, .int 0, .int 0, .int 0, .int (-1), .int (-1), .ref xtp, .ref xnames_, .ref xquoted_, .ref xlinks_, .ref xwalker2_, .int 0, .int 0, .int 0])), (xdk, .inr (0, [.null, .int (-1), .int 0, .int 0, .int 0, .int 0, .int 0, .int 0, .ref xsource_, .ref xview_, .ref xspare_, .ref xoutcome_, .ref xoldSources_, .ref xoldViews_, .int 0]))]) [0, 1, 2] (by decide) rfl
  have hKc := hK.sub (tys' := []) [] rfl
  have hFc := va_free (wc := [(xh0, .inr (11, [.ref xsl, .ref xwalker_, .ref xrd, .ref xmachine_, .ref xtrial_, .ref xdk])), (xrd, .inr (4, [.ref xlenses_, .int 0, .int 0, .int 0, .int (-1), .int (-1), .ref xtp, .ref xnames_, .ref xquoted_, .ref xlinks_, .ref xwalker2_, .int 0, .int 0, .int 0])), (xdk, .inr (0, [.null, .int (-1), .int 0, .int 0, .int 0, .int 0, .int 0, .int 0, .ref xsource_, .ref xview_, .ref xspare_, .ref xoutcome_, .ref xoldSources_, .ref xoldViews_, .int 0]))]) hD hS hA [0, 1, 2] rfl
  refine va_calli (va_runV (As := [.int (xs (1 : Int32).toNatClampNeg)]) (rest := []) ⟨hx, hb, hml, hown, hts⟩ (k_look l dC dI H.size xh0 (xs (1 : Int32).toNatClampNeg) xsl xwalker_ xrd xmachine_ xtrial_ xdk xlenses_ xtp xnames_ xquoted_ xlinks_ xwalker2_ xsource_ xview_ xspare_ xoutcome_ xoldSources_ xoldViews_) (cwV 1 hts gcase_26_126 rfl rfl rfl (by decide +kernel) ⟨Nat.le_of_ble_eq_true rfl, Nat.le_of_ble_eq_true rfl⟩) ⟨fun a U g mk q => by obtain ⟨q0, q1, qP, qK, qD⟩ := q; exact ⟨q0, q1, qP, va_K.moved (u := U) (U := U.calling g mk a) (Vm.Alike.refl U.vm) qK, qD⟩, va_recv hK hP (ci := 11) (q0 := 0) rfl rfl, fun U hU hW => ⟨rfl, by rw [hU], by rw [hU]; exact hPc, va_K.moved hW.alike hKc, hDc.weaken (fun _ _ _ _ => trivial)⟩⟩ rfl rfl hl.1 rfl (lv_room (Nat.le_of_ble_eq_true rfl)) dL_law_1201 ⟨Nat.le_of_ble_eq_true rfl, Nat.le_of_ble_eq_true rfl⟩) hS (fun q _ h => hFc q h) hFc (fun r_3 u t H1 locs ht hvm hw hB hz1 hk1 hS => ?_)
  obtain ⟨hP1, hK1, hD1⟩ := hB
  rw [ht] at hP1
  try dsimp only at hw
  obtain ⟨hP, hD⟩ := va_join (wr := [(mh0, .inr (12, [.int 0, .ref ma1, .ref ma2, .ref ma3, .ref ma4, .ref ma5, .int 0, .ref ma7, .ref ma8, .int 0, .ref ma10, .ref ma11, .ref ma12, .ref ma13, .int 0, .ref ma15, .ref ma16, .ref ma17, .ref ma18, .ref ma19, .ref ma20, .ref ma21, .ref ma22, .int 0, .ref ma24, .int 0, .ref ma26, .ref ma27, .int 0, .ref ma29, .ref ma30, .ref ma31, .ref ma32, .ref ma33, .int 0, .ref ma35, .ref ma36, .int 0, .ref ma38, .int 0, .int 0, .int 0, .int 0, .int 0, .long 0, .int 0, .int 0, .int (-1), .int (-1), .int 0, .ref ma50, .ref ma51, .int 0, .int 0, .ref ma54, .ref ma55, .int (-1), .ref ma57, .ref ma58, .ref ma59, .ref ma60, .int 0, .int 0, .int 0, .ref ma64]))]) (w1 := []) hP hD [0, 1, 2] [3] rfl rfl (by decide) (by decide) hk1 hFc hP1 hD1
  clear hk1 hz1 hPc hDc hFc hP1 hD1 hK1 hKc
  generalize H1 = H at hP hS ⊢
  have hP : va_P (dC, dI) cls [(mh0, .inr (12, [.int 0, .ref ma1, .ref ma2, .ref ma3, .ref ma4, .ref ma5, .int 0, .ref ma7, .ref ma8, .int 0, .ref ma10, .ref ma11, .ref ma12, .ref ma13, .int 0, .ref ma15, .ref ma16, .ref ma17, .ref ma18, .ref ma19, .ref ma20, .ref ma21, .ref ma22, .int 0, .ref ma24, .int 0, .ref ma26, .ref ma27, .int 0, .ref ma29, .ref ma30, .ref ma31, .ref ma32, .ref ma33, .int 0, .ref ma35, .ref ma36, .int 0, .ref ma38, .int 0, .int 0, .int 0, .int 0, .int 0, .long 0, .int 0, .int 0, .int (-1), .int (-1), .int 0, .ref ma50, .ref ma51, .int 0, .int 0, .ref ma54, .ref ma55, .int (-1), .ref ma57, .ref ma58, .ref ma59, .ref ma60, .int 0, .int 0, .int 0, .ref ma64]))] H := hP
  have hD : va_D (fun q : Nat => s.heap.size ≤ q) [(mh0, .inr (12, [.int 0, .ref ma1, .ref ma2, .ref ma3, .ref ma4, .ref ma5, .int 0, .ref ma7, .ref ma8, .int 0, .ref ma10, .ref ma11, .ref ma12, .ref ma13, .int 0, .ref ma15, .ref ma16, .ref ma17, .ref ma18, .ref ma19, .ref ma20, .ref ma21, .ref ma22, .int 0, .ref ma24, .int 0, .ref ma26, .ref ma27, .int 0, .ref ma29, .ref ma30, .ref ma31, .ref ma32, .ref ma33, .int 0, .ref ma35, .ref ma36, .int 0, .ref ma38, .int 0, .int 0, .int 0, .int 0, .int 0, .long 0, .int 0, .int 0, .int (-1), .int (-1), .int 0, .ref ma50, .ref ma51, .int 0, .int 0, .ref ma54, .ref ma55, .int (-1), .ref ma57, .ref ma58, .ref ma59, .ref ma60, .int 0, .int 0, .int 0, .ref ma64]))] := hD
  obtain rfl := hw
  refine lv_aload_n hx hb dL_law_1204 rfl (lv_at hl 1 rfl) ?_
  refine lv_aload_n hx hb dL_law_1205 rfl (lv_at hl 3 rfl) ?_
  refine lv_iload_n hx hb dL_law_1206 rfl (lv_at hl 0 rfl) ?_
  refine lv_iconst (v := 1) hx hb dL_law_1207 (by decide) ?_
  refine lv_iadd hx hb dL_law_1208 ?_
  refine lv_topi (fun z_4 ez_4 => ?_)
  obtain rfl : z_4 = (1 : Int32) := ez_4.trans (by decide)
  refine va_sld hx hb hX hbl hbA hS (by unfold vp_in; decide) dL_law_1209 ?_
  have hPc := hP.sub (ws' := [(mh0, .inr (12, [.int 0, .ref ma1, .ref ma2, .ref ma3, .ref ma4, .ref ma5, .int 0, .ref ma7, .ref ma8, .int 0, .ref ma10, .ref ma11, .ref ma12, .ref ma13, .int 0, .ref ma15, .ref ma16, .ref ma17, .ref ma18, .ref ma19, .ref ma20, .ref ma21, .ref ma22, .int 0, .ref ma24, .int 0, .ref ma26, .ref ma27, .int 0, .ref ma29, .ref ma30, .ref ma31, .ref ma32, .ref ma33, .int 0, .ref ma35, .ref ma36, .int 0, .ref ma38, .int 0, .int 0, .int 0, .int 0, .int 0, .long 0, .int 0, .int 0, .int (-1), .int (-1), .int 0, .ref ma50, .ref ma51, .int 0, .int 0, .ref ma54, .ref ma55, .int (-1), .ref ma57, .ref ma58, .ref ma59, .ref ma60, .int 0, .int 0, .int 0, .ref ma64]))]) [0] rfl
  have hDc := hD.sub (ws' := [(mh0, .inr (12, [.int 0, .ref ma1, .ref ma2, .ref ma3, .ref ma4, .ref ma5, .int 0, .ref ma7, .ref ma8, .int 0, .ref ma10, .ref ma11, .ref ma12, .ref ma13, .int 0, .ref ma15, .ref ma16, .ref ma17, .ref ma18, .ref ma19, .ref ma20, .ref ma21, .ref ma22, .int 0, .ref ma24, .int 0, .ref ma26, .ref ma27, .int 0, .ref ma29, .ref ma30, .ref ma31, .ref ma32, .ref ma33, .int 0, .ref ma35, .ref ma36, .int 0, .ref ma38, .int 0, .int 0, .int 0, .int 0, .int 0, .long 0, .int 0, .int 0, .int (-1), .int (-1), .int 0, .ref ma50, .ref ma51, .int 0, .int 0, .ref ma54, .ref ma55, .int (-1), .ref ma57, .ref ma58, .ref ma59, .ref ma60, .int 0, .int 0, .int 0, .ref ma64]))]) [0] (by decide) rfl
  have hKc := hK.sub (tys' := []) [] rfl
  have hFc := va_free (wc := [(mh0, .inr (12, [.int 0, .ref ma1, .ref ma2, .ref ma3, .ref ma4, .ref ma5, .int 0, .ref ma7, .ref ma8, .int 0, .ref ma10, .ref ma11, .ref ma12, .ref ma13, .int 0, .ref ma15, .ref ma16, .ref ma17, .ref ma18, .ref ma19, .ref ma20, .ref ma21, .ref ma22, .int 0, .ref ma24, .int 0, .ref ma26, .ref ma27, .int 0, .ref ma29, .ref ma30, .ref ma31, .ref ma32, .ref ma33, .int 0, .ref ma35, .ref ma36, .int 0, .ref ma38, .int 0, .int 0, .int 0, .int 0, .int 0, .long 0, .int 0, .int 0, .int (-1), .int (-1), .int 0, .ref ma50, .ref ma51, .int 0, .int 0, .ref ma54, .ref ma55, .int (-1), .ref ma57, .ref ma58, .ref ma59, .ref ma60, .int 0, .int 0, .int 0, .ref ma64]))]) hD hS hA [0] rfl
  refine va_calli (va_runV (As := [.int (xs (1 : Int32).toNatClampNeg)]) (rest := [.int (sp_look (xs (1 : Int32).toNatClampNeg))]) ⟨hx, hb, hml, hown, hts⟩ (m_look l dC dI H.size mh0 (xs (1 : Int32).toNatClampNeg) ma1 ma2 ma3 ma4 ma5 ma7 ma8 ma10 ma11 ma12 ma13 ma15 ma16 ma17 ma18 ma19 ma20 ma21 ma22 ma24 ma26 ma27 ma29 ma30 ma31 ma32 ma33 ma35 ma36 ma38 ma50 ma51 ma54 ma55 ma57 ma58 ma59 ma60 ma64) (cwV 1 hts gcase_26_129 rfl rfl rfl (by decide +kernel) ⟨Nat.le_of_ble_eq_true rfl, Nat.le_of_ble_eq_true rfl⟩) ⟨fun a U g mk q => by obtain ⟨q0, q1, qP, qK, qD⟩ := q; exact ⟨q0, q1, qP, va_K.moved (u := U) (U := U.calling g mk a) (Vm.Alike.refl U.vm) qK, qD⟩, va_recv hK hP (ci := 12) (q0 := 0) rfl rfl, fun U hU hW => ⟨rfl, by rw [hU], by rw [hU]; exact hPc, va_K.moved hW.alike hKc, hDc.weaken (fun _ _ _ _ => trivial)⟩⟩ rfl rfl hl.1 rfl (lv_room (Nat.le_of_ble_eq_true rfl)) dL_law_1210 ⟨Nat.le_of_ble_eq_true rfl, Nat.le_of_ble_eq_true rfl⟩) hS (fun q _ h => hFc q h) hFc (fun r_6 u t H1 locs ht hvm hw hB hz1 hk1 hS => ?_)
  obtain ⟨hP1, hK1, hD1⟩ := hB
  rw [ht] at hP1
  try dsimp only at hw
  obtain ⟨hP, hD⟩ := va_join (wr := []) (w1 := []) hP hD [0] [] rfl rfl (by decide) (by decide) hk1 hFc hP1 hD1
  clear hk1 hz1 hPc hDc hFc hP1 hD1 hK1 hKc
  generalize H1 = H at hP hS ⊢
  have hP : va_P (dC, dI) cls [] H := hP
  have hD : va_D (fun q : Nat => s.heap.size ≤ q) [] := hD
  obtain rfl := hw
  refine lv_icmp_eq (tgt := 1218) hx hb dL_law_1213 (by decide) (fun c_7 => ?_) (fun c_7 => ?_)
  rotate_left
  · exact absurd rfl c_7
  exact law_tail l C0 hS (Nat.le_of_ble_eq_true rfl) (Nat.le_of_ble_eq_true rfl) (lv_sub hl [3, 0] rfl)
