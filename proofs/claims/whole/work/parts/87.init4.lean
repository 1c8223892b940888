section INIT4
variable {sc : PSc} {Γ : List PTy} {I : PIm} {R : PRm}
set_option maxRecDepth 100000 in
set_option maxHeartbeats 1000000 in
/-- the class's world, where nothing of it has changed -/
theorem CRel.ext {Γ' : List PTy} {I' : PIm} {R' : PRm} {s : CS} (h : CRel Γ s I R) (x : ∀ (q : Nat) (T : PTy), Γ[q]? = some T → Γ'[q]? = some T) (y : ∀ q, q < 112 → I' q = I q) (e : ∀ q, q < 112 → R' q = R q) : CRel Γ' s I' R' := by
  obtain ⟨t, sp, ps, tb, hCA, HP, hV⟩ := id h
  obtain ⟨⟨c0, c1, c2, c3, c4, c5, c6, c7, c8, c9, c10, c11⟩, ⟨aR, aS, aH, aF, aC, aB, a79⟩, ⟨aT, aSp, tsp⟩, g49, r490, r491, aI0, aI1, g50⟩ := id hCA
  obtain ⟨vT, vF, vB, ⟨vN, vNo⟩, ⟨vH, vHo⟩, vI, vS, vK⟩ := id hV
  have aR0 := aR.1
  obtain ⟨aS0, aS1, aS2, aS3, aS4⟩ := id aS
  have aS5 := aS4.1
  have aH0 := aH.1
  have aF0 := aF.1
  have aC0 := aC.1
  have aB0 := aB.1
  have aT0 := aT.1
  have aT1 := aT.2.1
  have aT9 := aT.2.2.2.2.2.2.2.2.2.1
  have aT90 := aT9.1
  obtain ⟨vNok, vNoF⟩ := id vNo
  obtain ⟨o1, o2, o3, o4, o5, o6⟩ := id vNok
  obtain ⟨n1, n2, n3, n4, n5, n6⟩ := id vN
  refine ⟨t, sp, ps, tb, ⟨⟨x _ _ c0, ?_⟩, ⟨aR.ext x (e _ (by omega)), aS.ext x (fun q _ _ => e q (by omega)), aH.ext x (e _ (by omega)), aF.ext x (e _ (by omega)), aC.ext x (e _ (by omega)), aB.ext x (fun q _ _ => e q (by omega)), x _ _ a79⟩, ⟨aT.ext x (fun q _ _ => e q (by omega)), aSp.ext x (fun q _ _ => e q (by omega)), tsp⟩, x _ _ g49, by rw [e 49 (by omega)]; exact r490, by rw [e 49 (by omega)]; exact r491, aI0.ext x (fun q _ _ => e q (by omega)), aI1.ext x (fun q _ _ => e q (by omega)), x _ _ g50⟩, HP.ext x (fun q _ _ => e q (by omega)), (vT.congr rfl (fun q g => y q (by omega))), (vF.congr rfl (fun q g => y q (by omega)) (by rw [y (t + 1) (by omega)])), (vB.of (fun q g1 g2 => y q (by omega))), (⟨vN.cg (fun q g1 g2 => y q (by omega)), vNo⟩), (⟨vH.cg HP (fun q g1 g2 => y q (by omega)), vHo⟩), (vI.congr rfl rfl (fun q g => y q (by omega))), (by unfold CSee; rw [y 0 (by omega)]; exact vS), (vK.congr (fun q g1 g2 => y q (by omega)))⟩
  rw [e 0 (by omega)]
  exact ⟨c1, c2, c3, c4, c5, c6, c7, c8, c9, c10, c11⟩
set_option maxRecDepth 100000 in
set_option maxHeartbeats 1000000 in
theorem MAt.hi {R' : PRm} (M : MAt Γ R) (e : R' 112 = R 112) : MAt Γ R' := by
  unfold MAt iaAt at M ⊢
  rw [e]; exact M
set_option maxRecDepth 100000 in
set_option maxHeartbeats 1000000 in
theorem MVal.hi {s : CS} {I' : PIm} (h : MVal s I) (e : ∀ q, 112 ≤ q → I' q = I q) : MVal s I' := h.cg (fun k _ => by rw [e 112 (by omega)]) (fun q g => e q (by omega)) (fun q a b k _ _ => by rw [e q (by omega)])
set_option maxRecDepth 100000 in
set_option maxHeartbeats 1000000 in
theorem lp_init11 (d : Nat) {G : List PTy} {J : PIm} {Q : PRm} (M : MAt G Q) (xG : Gex Γ G 142) (fr : ∀ q, q < 112 → J q = I q ∧ Q q = R q) (z20 : J 112 20 = 0) : PW sc mX11_init (d + 3) 0 0 (fun v Γ' I' R' => v = none ∧ Gex Γ Γ' 142 ∧ (∀ q, q < 112 → I' q = I q ∧ R' q = R q) ∧ MAt Γ' R' ∧ MVal cs0 I') 242 [some (.inr (some 112))] [] G J Q := by
  refine PW.aload_n (pc := 242) dX11_init_242 rfl ?_
  refine PW.invV0 (pc := 243) dX11_init_243 mv_X11_98 (c_X11_begins _ M) M.g112 rfl rfl (Nat.le_of_ble_eq_true rfl) ?_
  (rintro v G2 J2 Q2 ⟨rfl, rfl, rfl, PI, f2⟩)
  refine PW.aload_n (pc := 246) dX11_init_246 rfl ?_
  refine PW.invV0 (pc := 247) dX11_init_247 mv_X11_101 (c_X11_becomes _ M PI (by omega)) M.g112 rfl rfl (Nat.le_of_ble_eq_true rfl) ?_
  (rintro v G3 J3 Q3 ⟨rfl, rfl, rfl, f3, ⟨tb2, g1, g2, g3, g4⟩, rw_, okp, ⟨l1, l2⟩, u7, u10, u0, u1⟩)
  exact PW.vreturn (pc := 250) dX11_init_250 rfl (by
  refine ⟨rfl, xG, fun q g => ⟨?_, (fr q g).2⟩, M, ⟨?_, Nat.zero_le _, fun k k0 k1 => absurd k1 (by show ¬ k < ((0 : Nat) : Int); omega)⟩, ⟨tb2, g1, g2, g3, g4⟩, ⟨rw_, okF0⟩, ⟨u7, Nat.zero_le _, fun i i0 i1 => absurd i1 (by show ¬ i < ((0 : Nat) : Int); omega)⟩, fun i i0 i1 => ⟨?_, Or.inl rfl⟩, ⟨u10, Nat.zero_le _, fun i i0 i1 => absurd i1 (by show ¬ i < ((0 : Nat) : Int); omega)⟩⟩
  · rw [← (fr q g).1]; funext z; rw [f3 q z (by omega), f2 q z (by omega)]
  · rw [f3 _ _ (by omega), f2 _ _ (by omega)]; exact z20
  · rcases (show i = 0 ∨ i = 1 by omega) with rfl | rfl
    · exact u0
    · exact u1)
set_option maxRecDepth 100000 in
set_option maxHeartbeats 1000000 in
theorem c_X11_init (d : Nat) (hl : Γ.length = 113) (hb : Γ[112]? = some (.inl 11)) (hz : I 112 20 = 0) : PC sc mX11_init (d + 3) (0 + 1 + 1 + 1 + 1 + 1 + 1 + 1 + 1 + 1 + 1 + 1 + 1 + 1 + 1 + 1 + 1 + 1 + 1 + 1 + 1 + 1 + 1 + 1 + 1 + 1 + 1 + 1 + 1 + 1) (0 + 29 + 8 + 6 + 6 + 200 + 200 + 200 + 200 + 6 + 6 + 24 + 6 + 6 + 6 + 100 + 40 + 40 + 200 + 200 + 200 + 116 + 4 + 2 + 58 + 290 + 29 + 6 + 6 + 6) [.inr (some 112)] Γ I R (fun v Γ' I' R' => v = none ∧ Gex Γ Γ' 142 ∧ (∀ q, q < 112 → I' q = I q ∧ R' q = R q) ∧ MAt Γ' R' ∧ MVal cs0 I') := by
  refine PC.ofPW (by decide) (Nat.le_of_ble_eq_true rfl) ?_
  refine PW.aload_n (pc := 0) dX11_init_0 rfl ?_
  refine PW.obj (pc := 1) dX11_init_1 ob_X11_1 (Nat.le_of_ble_eq_true rfl) ?_
  refine PW.aload_n (pc := 4) dX11_init_4 rfl ?_
  refine PW.bipush (pc := 5) dX11_init_5 (by decide) ?_
  refine PW.newz' (pc := 7) (N := 6) (b := 113) dX11_init_7 rfl (by decide) (by have w_ := hl; omega) (by omega) (fun G_7 x_7 n_7 => ?_)
  have hb := x_7.2 _ _ hb
  refine PW.putrF (pc := 9) dX11_init_9 fl_X11_7 rfl cl_X11 (by first | assumption | rfl) ?_
  refine PW.aload_n (pc := 12) dX11_init_12 rfl ?_
  refine PW.bipush (pc := 13) dX11_init_13 (by decide) ?_
  refine PW.newi' (pc := 15) (N := 6) (b := 114) dX11_init_15 rfl (by decide) (by have w_ := x_7.1; omega) (by omega) (fun G_15 x_15 n_15 => ?_)
  have hb := x_15.2 _ _ hb
  refine PW.putrF (pc := 17) dX11_init_17 fl_X11_13 rfl cl_X11 (by first | assumption | rfl) ?_
  refine PW.aload_n (pc := 20) dX11_init_20 rfl ?_
  refine PW.bipush (pc := 21) dX11_init_21 (by decide) ?_
  refine PW.newi' (pc := 23) (N := 6) (b := 115) dX11_init_23 rfl (by decide) (by have w_ := x_15.1; omega) (by omega) (fun G_23 x_23 n_23 => ?_)
  have hb := x_23.2 _ _ hb
  refine PW.putrF (pc := 25) dX11_init_25 fl_X11_17 rfl cl_X11 (by first | assumption | rfl) ?_
  refine PW.aload_n (pc := 28) dX11_init_28 rfl ?_
  refine PW.bipush (pc := 29) dX11_init_29 (by decide) ?_
  refine PW.newi' (pc := 31) (N := 29) (b := 116) dX11_init_31 rfl (by decide) (by have w_ := x_23.1; omega) (by omega) (fun G_31 x_31 n_31 => ?_)
  have hb := x_31.2 _ _ hb
  refine PW.putrF (pc := 33) dX11_init_33 fl_X11_20 rfl cl_X11 (by first | assumption | rfl) ?_
  refine PW.aload_n (pc := 36) dX11_init_36 rfl ?_
  refine PW.sipush (pc := 37) dX11_init_37 (by decide) ?_
  refine PW.newi' (pc := 40) (N := 290) (b := 117) dX11_init_40 rfl (by decide) (by have w_ := x_31.1; omega) (by omega) (fun G_40 x_40 n_40 => ?_)
  have hb := x_40.2 _ _ hb
  refine PW.putrF (pc := 42) dX11_init_42 fl_X11_23 rfl cl_X11 (by first | assumption | rfl) ?_
  refine PW.aload_n (pc := 45) dX11_init_45 rfl ?_
  refine PW.bipush (pc := 46) dX11_init_46 (by decide) ?_
  refine PW.newi' (pc := 48) (N := 58) (b := 118) dX11_init_48 rfl (by decide) (by have w_ := x_40.1; omega) (by omega) (fun G_48 x_48 n_48 => ?_)
  have hb := x_48.2 _ _ hb
  refine PW.putrF (pc := 50) dX11_init_50 fl_X11_26 rfl cl_X11 (by first | assumption | rfl) ?_
  refine PW.aload_n (pc := 53) dX11_init_53 rfl ?_
  refine PW.iconst (pc := 54) dX11_init_54 ?_
  refine PW.newz' (pc := 55) (N := 2) (b := 119) dX11_init_55 rfl (by decide) (by have w_ := x_48.1; omega) (by omega) (fun G_55 x_55 n_55 => ?_)
  have hb := x_55.2 _ _ hb
  refine PW.putrF (pc := 57) dX11_init_57 fl_X11_29 rfl cl_X11 (by first | assumption | rfl) ?_
  refine PW.aload_n (pc := 60) dX11_init_60 rfl ?_
  refine PW.iconst (pc := 61) dX11_init_61 ?_
  refine PW.newi' (pc := 62) (N := 4) (b := 120) dX11_init_62 rfl (by decide) (by have w_ := x_55.1; omega) (by omega) (fun G_62 x_62 n_62 => ?_)
  have hb := x_62.2 _ _ hb
  refine PW.putrF (pc := 64) dX11_init_64 fl_X11_32 rfl cl_X11 (by first | assumption | rfl) ?_
  refine PW.aload_n (pc := 67) dX11_init_67 rfl ?_
  refine PW.bipush (pc := 68) dX11_init_68 (by decide) ?_
  refine PW.newi' (pc := 70) (N := 116) (b := 121) dX11_init_70 rfl (by decide) (by have w_ := x_62.1; omega) (by omega) (fun G_70 x_70 n_70 => ?_)
  have hb := x_70.2 _ _ hb
  refine PW.putrF (pc := 72) dX11_init_72 fl_X11_35 rfl cl_X11 (by first | assumption | rfl) ?_
  refine PW.aload_n (pc := 75) dX11_init_75 rfl ?_
  refine PW.sipush (pc := 76) dX11_init_76 (by decide) ?_
  refine PW.newi' (pc := 79) (N := 200) (b := 122) dX11_init_79 rfl (by decide) (by have w_ := x_70.1; omega) (by omega) (fun G_79 x_79 n_79 => ?_)
  have hb := x_79.2 _ _ hb
  refine PW.putrF (pc := 81) dX11_init_81 fl_X11_38 rfl cl_X11 (by first | assumption | rfl) ?_
  refine PW.aload_n (pc := 84) dX11_init_84 rfl ?_
  refine PW.sipush (pc := 85) dX11_init_85 (by decide) ?_
  refine PW.newi' (pc := 88) (N := 200) (b := 123) dX11_init_88 rfl (by decide) (by have w_ := x_79.1; omega) (by omega) (fun G_88 x_88 n_88 => ?_)
  have hb := x_88.2 _ _ hb
  refine PW.putrF (pc := 90) dX11_init_90 fl_X11_41 rfl cl_X11 (by first | assumption | rfl) ?_
  refine PW.aload_n (pc := 93) dX11_init_93 rfl ?_
  refine PW.sipush (pc := 94) dX11_init_94 (by decide) ?_
  refine PW.newi' (pc := 97) (N := 200) (b := 124) dX11_init_97 rfl (by decide) (by have w_ := x_88.1; omega) (by omega) (fun G_97 x_97 n_97 => ?_)
  have hb := x_97.2 _ _ hb
  refine PW.putrF (pc := 99) dX11_init_99 fl_X11_44 rfl cl_X11 (by first | assumption | rfl) ?_
  refine PW.aload_n (pc := 102) dX11_init_102 rfl ?_
  refine PW.bipush (pc := 103) dX11_init_103 (by decide) ?_
  refine PW.newi' (pc := 105) (N := 40) (b := 125) dX11_init_105 rfl (by decide) (by have w_ := x_97.1; omega) (by omega) (fun G_105 x_105 n_105 => ?_)
  have hb := x_105.2 _ _ hb
  refine PW.putrF (pc := 107) dX11_init_107 fl_X11_47 rfl cl_X11 (by first | assumption | rfl) ?_
  refine PW.aload_n (pc := 110) dX11_init_110 rfl ?_
  refine PW.bipush (pc := 111) dX11_init_111 (by decide) ?_
  refine PW.newi' (pc := 113) (N := 40) (b := 126) dX11_init_113 rfl (by decide) (by have w_ := x_105.1; omega) (by omega) (fun G_113 x_113 n_113 => ?_)
  have hb := x_113.2 _ _ hb
  refine PW.putrF (pc := 115) dX11_init_115 fl_X11_50 rfl cl_X11 (by first | assumption | rfl) ?_
  refine PW.aload_n (pc := 118) dX11_init_118 rfl ?_
  refine PW.bipush (pc := 119) dX11_init_119 (by decide) ?_
  refine PW.newi' (pc := 121) (N := 100) (b := 127) dX11_init_121 rfl (by decide) (by have w_ := x_113.1; omega) (by omega) (fun G_121 x_121 n_121 => ?_)
  have hb := x_121.2 _ _ hb
  refine PW.putrF (pc := 123) dX11_init_123 fl_X11_53 rfl cl_X11 (by first | assumption | rfl) ?_
  refine PW.aload_n (pc := 126) dX11_init_126 rfl ?_
  refine PW.bipush (pc := 127) dX11_init_127 (by decide) ?_
  refine PW.newz' (pc := 129) (N := 6) (b := 128) dX11_init_129 rfl (by decide) (by have w_ := x_121.1; omega) (by omega) (fun G_129 x_129 n_129 => ?_)
  have hb := x_129.2 _ _ hb
  refine PW.putrF (pc := 131) dX11_init_131 fl_X11_56 rfl cl_X11 (by first | assumption | rfl) ?_
  refine PW.aload_n (pc := 134) dX11_init_134 rfl ?_
  refine PW.bipush (pc := 135) dX11_init_135 (by decide) ?_
  refine PW.newi' (pc := 137) (N := 6) (b := 129) dX11_init_137 rfl (by decide) (by have w_ := x_129.1; omega) (by omega) (fun G_137 x_137 n_137 => ?_)
  have hb := x_137.2 _ _ hb
  refine PW.putrF (pc := 139) dX11_init_139 fl_X11_59 rfl cl_X11 (by first | assumption | rfl) ?_
  refine PW.aload_n (pc := 142) dX11_init_142 rfl ?_
  refine PW.bipush (pc := 143) dX11_init_143 (by decide) ?_
  refine PW.newi' (pc := 145) (N := 6) (b := 130) dX11_init_145 rfl (by decide) (by have w_ := x_137.1; omega) (by omega) (fun G_145 x_145 n_145 => ?_)
  have hb := x_145.2 _ _ hb
  refine PW.putrF (pc := 147) dX11_init_147 fl_X11_62 rfl cl_X11 (by first | assumption | rfl) ?_
  refine PW.aload_n (pc := 150) dX11_init_150 rfl ?_
  refine PW.bipush (pc := 151) dX11_init_151 (by decide) ?_
  refine PW.newi' (pc := 153) (N := 24) (b := 131) dX11_init_153 rfl (by decide) (by have w_ := x_145.1; omega) (by omega) (fun G_153 x_153 n_153 => ?_)
  have hb := x_153.2 _ _ hb
  refine PW.putrF (pc := 155) dX11_init_155 fl_X11_65 rfl cl_X11 (by first | assumption | rfl) ?_
  refine PW.aload_n (pc := 158) dX11_init_158 rfl ?_
  refine PW.bipush (pc := 159) dX11_init_159 (by decide) ?_
  refine PW.newi' (pc := 161) (N := 6) (b := 132) dX11_init_161 rfl (by decide) (by have w_ := x_153.1; omega) (by omega) (fun G_161 x_161 n_161 => ?_)
  have hb := x_161.2 _ _ hb
  refine PW.putrF (pc := 163) dX11_init_163 fl_X11_68 rfl cl_X11 (by first | assumption | rfl) ?_
  refine PW.aload_n (pc := 166) dX11_init_166 rfl ?_
  refine PW.bipush (pc := 167) dX11_init_167 (by decide) ?_
  refine PW.newi' (pc := 169) (N := 6) (b := 133) dX11_init_169 rfl (by decide) (by have w_ := x_161.1; omega) (by omega) (fun G_169 x_169 n_169 => ?_)
  have hb := x_169.2 _ _ hb
  refine PW.putrF (pc := 171) dX11_init_171 fl_X11_71 rfl cl_X11 (by first | assumption | rfl) ?_
  refine PW.aload_n (pc := 174) dX11_init_174 rfl ?_
  refine PW.sipush (pc := 175) dX11_init_175 (by decide) ?_
  refine PW.newi' (pc := 178) (N := 200) (b := 134) dX11_init_178 rfl (by decide) (by have w_ := x_169.1; omega) (by omega) (fun G_178 x_178 n_178 => ?_)
  have hb := x_178.2 _ _ hb
  refine PW.putrF (pc := 180) dX11_init_180 fl_X11_74 rfl cl_X11 (by first | assumption | rfl) ?_
  refine PW.aload_n (pc := 183) dX11_init_183 rfl ?_
  refine PW.sipush (pc := 184) dX11_init_184 (by decide) ?_
  refine PW.newi' (pc := 187) (N := 200) (b := 135) dX11_init_187 rfl (by decide) (by have w_ := x_178.1; omega) (by omega) (fun G_187 x_187 n_187 => ?_)
  have hb := x_187.2 _ _ hb
  refine PW.putrF (pc := 189) dX11_init_189 fl_X11_77 rfl cl_X11 (by first | assumption | rfl) ?_
  refine PW.aload_n (pc := 192) dX11_init_192 rfl ?_
  refine PW.sipush (pc := 193) dX11_init_193 (by decide) ?_
  refine PW.newi' (pc := 196) (N := 200) (b := 136) dX11_init_196 rfl (by decide) (by have w_ := x_187.1; omega) (by omega) (fun G_196 x_196 n_196 => ?_)
  have hb := x_196.2 _ _ hb
  refine PW.putrF (pc := 198) dX11_init_198 fl_X11_80 rfl cl_X11 (by first | assumption | rfl) ?_
  refine PW.aload_n (pc := 201) dX11_init_201 rfl ?_
  refine PW.sipush (pc := 202) dX11_init_202 (by decide) ?_
  refine PW.newi' (pc := 205) (N := 200) (b := 137) dX11_init_205 rfl (by decide) (by have w_ := x_196.1; omega) (by omega) (fun G_205 x_205 n_205 => ?_)
  have hb := x_205.2 _ _ hb
  refine PW.putrF (pc := 207) dX11_init_207 fl_X11_83 rfl cl_X11 (by first | assumption | rfl) ?_
  refine PW.aload_n (pc := 210) dX11_init_210 rfl ?_
  refine PW.bipush (pc := 211) dX11_init_211 (by decide) ?_
  refine PW.newi' (pc := 213) (N := 6) (b := 138) dX11_init_213 rfl (by decide) (by have w_ := x_205.1; omega) (by omega) (fun G_213 x_213 n_213 => ?_)
  have hb := x_213.2 _ _ hb
  refine PW.putrF (pc := 215) dX11_init_215 fl_X11_86 rfl cl_X11 (by first | assumption | rfl) ?_
  refine PW.aload_n (pc := 218) dX11_init_218 rfl ?_
  refine PW.bipush (pc := 219) dX11_init_219 (by decide) ?_
  refine PW.newi' (pc := 221) (N := 6) (b := 139) dX11_init_221 rfl (by decide) (by have w_ := x_213.1; omega) (by omega) (fun G_221 x_221 n_221 => ?_)
  have hb := x_221.2 _ _ hb
  refine PW.putrF (pc := 223) dX11_init_223 fl_X11_89 rfl cl_X11 (by first | assumption | rfl) ?_
  refine PW.aload_n (pc := 226) dX11_init_226 rfl ?_
  refine PW.bipush (pc := 227) dX11_init_227 (by decide) ?_
  refine PW.newi' (pc := 229) (N := 8) (b := 140) dX11_init_229 rfl (by decide) (by have w_ := x_221.1; omega) (by omega) (fun G_229 x_229 n_229 => ?_)
  have hb := x_229.2 _ _ hb
  refine PW.putrF (pc := 231) dX11_init_231 fl_X11_92 rfl cl_X11 (by first | assumption | rfl) ?_
  refine PW.aload_n (pc := 234) dX11_init_234 rfl ?_
  refine PW.bipush (pc := 235) dX11_init_235 (by decide) ?_
  refine PW.newi' (pc := 237) (N := 29) (b := 141) dX11_init_237 rfl (by decide) (by have w_ := x_229.1; omega) (by omega) (fun G_237 x_237 n_237 => ?_)
  have hb := x_237.2 _ _ hb
  refine PW.putrF (pc := 239) dX11_init_239 fl_X11_95 rfl cl_X11 (by first | assumption | rfl) ?_
  skip
  have y28 := Gex.rf x_237.1
  have y27 := x_237.tr y28
  have y26 := x_229.tr y27
  have y25 := x_221.tr y26
  have y24 := x_213.tr y25
  have y23 := x_205.tr y24
  have y22 := x_196.tr y23
  have y21 := x_187.tr y22
  have y20 := x_178.tr y21
  have y19 := x_169.tr y20
  have y18 := x_161.tr y19
  have y17 := x_153.tr y18
  have y16 := x_145.tr y17
  have y15 := x_137.tr y16
  have y14 := x_129.tr y15
  have y13 := x_121.tr y14
  have y12 := x_113.tr y13
  have y11 := x_105.tr y12
  have y10 := x_97.tr y11
  have y9 := x_88.tr y10
  have y8 := x_79.tr y9
  have y7 := x_70.tr y8
  have y6 := x_62.tr y7
  have y5 := x_55.tr y6
  have y4 := x_48.tr y5
  have y3 := x_40.tr y4
  have y2 := x_31.tr y3
  have y1 := x_23.tr y2
  have y0 := x_15.tr y1
  refine lp_init11 d ⟨hb, ⟨rfl, y0.2 _ _ n_7⟩, ⟨rfl, y1.2 _ _ n_15⟩, ⟨rfl, y2.2 _ _ n_23⟩, ⟨rfl, y3.2 _ _ n_31⟩, ⟨rfl, y4.2 _ _ n_40⟩, ⟨rfl, y5.2 _ _ n_48⟩, ⟨rfl, y6.2 _ _ n_55⟩, ⟨rfl, y7.2 _ _ n_62⟩, ⟨rfl, y8.2 _ _ n_70⟩, ⟨rfl, y9.2 _ _ n_79⟩, ⟨rfl, y10.2 _ _ n_88⟩, ⟨rfl, y11.2 _ _ n_97⟩, ⟨rfl, y12.2 _ _ n_105⟩, ⟨rfl, y13.2 _ _ n_113⟩, ⟨rfl, y14.2 _ _ n_121⟩, ⟨rfl, y15.2 _ _ n_129⟩, ⟨rfl, y16.2 _ _ n_137⟩, ⟨rfl, y17.2 _ _ n_145⟩, ⟨rfl, y18.2 _ _ n_153⟩, ⟨rfl, y19.2 _ _ n_161⟩, ⟨rfl, y20.2 _ _ n_169⟩, ⟨rfl, y21.2 _ _ n_178⟩, ⟨rfl, y22.2 _ _ n_187⟩, ⟨rfl, y23.2 _ _ n_196⟩, ⟨rfl, y24.2 _ _ n_205⟩, ⟨rfl, y25.2 _ _ n_213⟩, ⟨rfl, y26.2 _ _ n_221⟩, ⟨rfl, y27.2 _ _ n_229⟩, ⟨rfl, y28.2 _ _ n_237⟩⟩ (x_7.tr y0) (fun q g => ⟨?_, ?_⟩) ?_
  · rw [pw_zi_ne (by omega), pw_zi_ne (by omega), pw_zi_ne (by omega), pw_zi_ne (by omega), pw_zi_ne (by omega), pw_zi_ne (by omega), pw_zi_ne (by omega), pw_zi_ne (by omega), pw_zi_ne (by omega), pw_zi_ne (by omega), pw_zi_ne (by omega), pw_zi_ne (by omega), pw_zi_ne (by omega), pw_zi_ne (by omega), pw_zi_ne (by omega), pw_zi_ne (by omega), pw_zi_ne (by omega), pw_zi_ne (by omega), pw_zi_ne (by omega), pw_zi_ne (by omega), pw_zi_ne (by omega), pw_zi_ne (by omega), pw_zi_ne (by omega), pw_zi_ne (by omega), pw_zi_ne (by omega), pw_zi_ne (by omega), pw_zi_ne (by omega), pw_zi_ne (by omega), pw_zi_ne (by omega)]
  · rw [pw_upr_ne q (by omega), pw_zr_ne (by omega), pw_upr_ne q (by omega), pw_zr_ne (by omega), pw_upr_ne q (by omega), pw_zr_ne (by omega), pw_upr_ne q (by omega), pw_zr_ne (by omega), pw_upr_ne q (by omega), pw_zr_ne (by omega), pw_upr_ne q (by omega), pw_zr_ne (by omega), pw_upr_ne q (by omega), pw_zr_ne (by omega), pw_upr_ne q (by omega), pw_zr_ne (by omega), pw_upr_ne q (by omega), pw_zr_ne (by omega), pw_upr_ne q (by omega), pw_zr_ne (by omega), pw_upr_ne q (by omega), pw_zr_ne (by omega), pw_upr_ne q (by omega), pw_zr_ne (by omega), pw_upr_ne q (by omega), pw_zr_ne (by omega), pw_upr_ne q (by omega), pw_zr_ne (by omega), pw_upr_ne q (by omega), pw_zr_ne (by omega), pw_upr_ne q (by omega), pw_zr_ne (by omega), pw_upr_ne q (by omega), pw_zr_ne (by omega), pw_upr_ne q (by omega), pw_zr_ne (by omega), pw_upr_ne q (by omega), pw_zr_ne (by omega), pw_upr_ne q (by omega), pw_zr_ne (by omega), pw_upr_ne q (by omega), pw_zr_ne (by omega), pw_upr_ne q (by omega), pw_zr_ne (by omega), pw_upr_ne q (by omega), pw_zr_ne (by omega), pw_upr_ne q (by omega), pw_zr_ne (by omega), pw_upr_ne q (by omega), pw_zr_ne (by omega), pw_upr_ne q (by omega), pw_zr_ne (by omega), pw_upr_ne q (by omega), pw_zr_ne (by omega), pw_upr_ne q (by omega), pw_zr_ne (by omega), pw_upr_ne q (by omega), pw_zr_ne (by omega)]
  · rw [pw_zi_ne (by omega), pw_zi_ne (by omega), pw_zi_ne (by omega), pw_zi_ne (by omega), pw_zi_ne (by omega), pw_zi_ne (by omega), pw_zi_ne (by omega), pw_zi_ne (by omega), pw_zi_ne (by omega), pw_zi_ne (by omega), pw_zi_ne (by omega), pw_zi_ne (by omega), pw_zi_ne (by omega), pw_zi_ne (by omega), pw_zi_ne (by omega), pw_zi_ne (by omega), pw_zi_ne (by omega), pw_zi_ne (by omega), pw_zi_ne (by omega), pw_zi_ne (by omega), pw_zi_ne (by omega), pw_zi_ne (by omega), pw_zi_ne (by omega), pw_zi_ne (by omega), pw_zi_ne (by omega), pw_zi_ne (by omega), pw_zi_ne (by omega), pw_zi_ne (by omega), pw_zi_ne (by omega)]; exact hz
end INIT4
