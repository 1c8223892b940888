section JUDGE
variable {sc : PSc} {Γ : List PTy} {R : PRm}
set_option maxRecDepth 100000 in
set_option maxHeartbeats 1000000 in
theorem dep_rdT {P : Int → Int} {M : Int → Tm} {V : Int → Bool} : ∀ (n : Nat) (r : Int), (∀ j : Int, 0 ≤ j → j < n → dep (M j) ≤ j + 1) → dep (rdT P M V n r) ≤ n
  | 0, r, _ => by rw [rdT, dep_tc]; omega
  | n + 1, r, h => by
    rw [rdT]
    have := h (n : Int) (by omega) (by omega)
    have := dep_rdT (P := P) (M := M) (V := V) n r (fun j a b => h j a (by omega))
    split <;> omega
set_option maxRecDepth 100000 in
set_option maxHeartbeats 1000000 in
theorem dep_Md (P : Int → Int) (V : Int → Int → Bool) : ∀ (n : Nat) (j : Int), 0 ≤ j → j < n → dep (Md P V j) ≤ j + 1
  | 0, j, a, b => by omega
  | n + 1, j, a, b => by
    by_cases q : j < n
    · exact dep_Md P V n j a q
    · obtain rfl : j = (n : Int) := by omega
      rw [Md_eq]
      have h1 := dep_rdT (P := P) (M := Md P V) (V := V (n : Int)) n (ss (P (n : Int))) (dep_Md P V n)
      have h2 := dep_rdT (P := P) (M := Md P V) (V := V (n : Int)) n (tt (P (n : Int))) (dep_Md P V n)
      unfold mkT
      split
      · rw [dep_tf]; omega
      · rw [dep_tg]; omega
set_option maxRecDepth 100000 in
set_option maxHeartbeats 1000000 in
theorem dep_reg (v : SV) (r : Int) (p : Prop) [Decidable p] : dep (regT v r p) ≤ vn v := by
  unfold regT
  split
  · exact dep_rdT _ _ (fun j a b => dep_Md _ _ _ j a b)
  · exact dep_rdT _ _ (fun j a b => dep_Md _ _ _ j a b)
set_option maxRecDepth 100000 in
set_option maxHeartbeats 1000000 in
theorem siz_reg {v : SV} (h : vn v ≤ 6) (r : Int) (p : Prop) [Decidable p] : siz (regT v r p) ≤ 1000000 := by
  have := siz_le 6 (regT v r p) (by have := dep_reg v r p; omega)
  have e : (2 : Int) ^ (6 + 1) = 128 := by decide
  omega
set_option maxRecDepth 100000 in
set_option maxHeartbeats 1000000 in
theorem CPo.of {I I' : PIm} {R' : PRm} {a : Int} {s : CS} (hI : ∀ q, 112 ≤ q → I' q = I q) (hR : ∀ q, 112 ≤ q → R' q = R q) (h : CRel Γ s I' R') : CPo Γ I R a s (some (.inl a)) Γ I' R' := ⟨rfl, rfl, hI, hR, h⟩
set_option maxRecDepth 100000 in
set_option maxHeartbeats 1000000 in
theorem p_fact (d : Nat) {I : PIm} {s : CS} {k : Int} (h : CRel Γ s I R) (hk : Rg k) : PC sc mX10_fact (d + 7) 0 0 [.inr (some 0), .inl k] Γ I R (CPo Γ I R (sp_fact s k) s) := by
  obtain ⟨t, sp, ps, tb, hCA, HP, hV⟩ := id h
  obtain ⟨⟨c0, c1, c2, c3, c4, c5, c6, c7, c8, c9, c10, c11⟩, ⟨aR, aS, aH, aF, aC, aB, a79⟩, ⟨aT, aSp, tsp⟩, g49, r490, r491, aI0, aI1, g50⟩ := id hCA
  obtain ⟨vT, vF, vB, ⟨vN, vNo⟩, ⟨vH, vHo⟩, vI, vS, vK⟩ := id hV
  have aR0 := aR.1
  obtain ⟨aS0, aS1, aS2, aS3, aS4⟩ := id aS
  have aS5 := aS4.1
  have aH0 := aH.1
  have aF0 := aF.1
  have aC0 := aC.1
  have aB0 := aB.1
  have aT0 := aT.1
  have aT1 := aT.2.1
  have aT9 := aT.2.2.2.2.2.2.2.2.2.1
  have aT90 := aT9.1
  obtain ⟨vNok, vNoF⟩ := id vNo
  obtain ⟨o1, o2, o3, o4, o5, o6⟩ := id vNok
  obtain ⟨n1, n2, n3, n4, n5, n6⟩ := id vN
  refine PC.ofPW (by decide) (Nat.le_of_ble_eq_true rfl) ?_
  obtain ⟨f1, f2, f3⟩ := id vF.1
  unfold sp_fact
  by_cases q : 0 ≤ k ∧ k < ((cF s).1 : Int)
  · rw [if_pos q]
    obtain ⟨-, ⟨q1, q2, q3⟩, q4, q5, q6⟩ := f3 k q.1 q.2
    have D := CAct.drop hCA HP hV
    have e5 : pw_up I (t + 1) 5 (I (t + 1) 6) (t + 1) 5 = I (t + 1) 6 := pw_up_self _ _ _ _
    have y0 : ∀ q, q ≠ t + 1 → pw_up I (t + 1) 5 (I (t + 1) 6) q = I q := fun q g => pw_up_ne q g
    rw [← q3, ← q6]
    refine PW.aload_n (pc := 0) dX10_fact_0 rfl ?_
    refine PW.getr (pc := 1) dX10_fact_1 fl_X10_69 (by first | assumption | rfl) (by first | assumption | rfl) ?_
    refine PW.iload_n (pc := 4) dX10_fact_4 rfl ?_
    refine PW.invV0x (pc := 5) dX10_fact_5 mv_X10_157 (c_X9_has _ aT hk (by omega)) (by first | assumption | rfl) rfl rfl (Nat.le_of_ble_eq_true rfl) ?_
    refine PW.if_ne (pc := 8) (tgt := 13) dX10_fact_8 (by decide) (rg_bi _) (fun c_8 => ?_) (fun c_8 => ?_)
    · refine PW.aload_n (pc := 13) dX10_fact_13 rfl ?_
      refine PW.getr (pc := 14) dX10_fact_14 fl_X10_69 (by first | assumption | rfl) (by first | assumption | rfl) ?_
      refine PW.getr (pc := 17) dX10_fact_17 fl_X10_175 (by first | assumption | rfl) (by first | assumption | rfl) ?_
      refine PW.invV0x (pc := 20) dX10_fact_20 mv_X10_179 (c_X8_dropPassing _ aT90) (by first | assumption | rfl) rfl rfl (Nat.le_of_ble_eq_true rfl) ?_
      refine PW.aload_n (pc := 23) dX10_fact_23 rfl ?_
      refine PW.aload_n (pc := 24) dX10_fact_24 rfl ?_
      refine PW.getr (pc := 25) dX10_fact_25 fl_X10_69 (by first | assumption | rfl) (by first | assumption | rfl) ?_
      refine PW.iload_n (pc := 28) dX10_fact_28 rfl ?_
      refine PW.invV0x (pc := 29) dX10_fact_29 mv_X10_184 (c_X9_firstOf _ aT (by rw [y0 t (by omega)]; omega) (by rw [y0 t (by omega)]; omega)) (by first | assumption | rfl) rfl rfl (Nat.le_of_ble_eq_true rfl) ?_
      rw [y0 (t + 9) (by omega)]
      refine PW.aload_n (pc := 32) dX10_fact_32 rfl ?_
      refine PW.getr (pc := 33) dX10_fact_33 fl_X10_69 (by first | assumption | rfl) (by first | assumption | rfl) ?_
      refine PW.iload_n (pc := 36) dX10_fact_36 rfl ?_
      refine PW.invV0x (pc := 37) dX10_fact_37 mv_X10_185 (c_X9_secondOf _ aT (by rw [y0 t (by omega)]; omega) (by rw [y0 t (by omega)]; omega)) (by first | assumption | rfl) rfl rfl (Nat.le_of_ble_eq_true rfl) ?_
      rw [y0 (t + 10) (by omega)]
      refine PW.invV0 (pc := 40) dX10_fact_40 mv_X10_186 (c_X10_judge _ D (by omega) (by omega)) (by first | assumption | rfl) rfl rfl (Nat.le_of_ble_eq_true rfl) ?_
      (rintro v Γ' I' R' ⟨rfl, rfl, f⟩)
      exact PW.ireturn (pc := 43) dX10_fact_43 rfl (CPo.of (fun q hq => by rw [f.1 q (by omega), y0 q (by omega)]) (fun q hq => f.2.1 q (by omega)) (D.cg f).rel)
    · exact absurd c_8 (by rw [bi_pos (by omega)]; omega)
  · rw [if_neg q]
    refine PW.aload_n (pc := 0) dX10_fact_0 rfl ?_
    refine PW.getr (pc := 1) dX10_fact_1 fl_X10_69 (by first | assumption | rfl) (by first | assumption | rfl) ?_
    refine PW.iload_n (pc := 4) dX10_fact_4 rfl ?_
    refine PW.invV0x (pc := 5) dX10_fact_5 mv_X10_157 (c_X9_has _ aT hk (by omega)) (by first | assumption | rfl) rfl rfl (Nat.le_of_ble_eq_true rfl) ?_
    refine PW.if_ne (pc := 8) (tgt := 13) dX10_fact_8 (by decide) (rg_bi _) (fun c_8 => ?_) (fun c_8 => ?_)
    · exact absurd (bi1 c_8) (by omega)
    · refine PW.iconst (pc := 11) dX10_fact_11 ?_
      exact PW.ireturn (pc := 12) dX10_fact_12 rfl (CPo.same h)
set_option maxRecDepth 100000 in
set_option maxHeartbeats 1000000 in
theorem p_ruled (d : Nat) {I : PIm} {s : CS} (h : CRel Γ s I R) : PC sc mX10_ruled (d + 6) 0 0 [.inr (some 0)] Γ I R (CPo Γ I R (sp_ruled s) s) := by
  obtain ⟨t, sp, ps, tb, hCA, HP, hV⟩ := id h
  obtain ⟨⟨c0, c1, c2, c3, c4, c5, c6, c7, c8, c9, c10, c11⟩, ⟨aR, aS, aH, aF, aC, aB, a79⟩, ⟨aT, aSp, tsp⟩, g49, r490, r491, aI0, aI1, g50⟩ := id hCA
  obtain ⟨vT, vF, vB, ⟨vN, vNo⟩, ⟨vH, vHo⟩, vI, vS, vK⟩ := id hV
  have aR0 := aR.1
  obtain ⟨aS0, aS1, aS2, aS3, aS4⟩ := id aS
  have aS5 := aS4.1
  have aH0 := aH.1
  have aF0 := aF.1
  have aC0 := aC.1
  have aB0 := aB.1
  have aT0 := aT.1
  have aT1 := aT.2.1
  have aT9 := aT.2.2.2.2.2.2.2.2.2.1
  have aT90 := aT9.1
  obtain ⟨vNok, vNoF⟩ := id vNo
  obtain ⟨o1, o2, o3, o4, o5, o6⟩ := id vNok
  obtain ⟨n1, n2, n3, n4, n5, n6⟩ := id vN
  refine PC.ofPW (by decide) (Nat.le_of_ble_eq_true rfl) ?_
  unfold sp_ruled
  have D := CAct.drop hCA HP hV
  obtain ⟨-, T5, hz, hU⟩ := id D
  have e5 : pw_up I (t + 1) 5 (I (t + 1) 6) (t + 1) 5 = I (t + 1) 6 := pw_up_self _ _ _ _
  have y0 : ∀ q, q ≠ t + 1 → pw_up I (t + 1) 5 (I (t + 1) 6) q = I q := fun q g => pw_up_ne q g
  have n6' : pw_up I (t + 1) 5 (I (t + 1) 6) 3 2 = vi (cNow s) := by rw [y0 3 (by omega)]; exact n6
  have h4 := T5.1
  have eU := funext fun u => propext (hU u)
  have FI : FactsIs (pw_up I (t + 1) 5 (I (t + 1) 6)) t (cF s) tb (I (t + 1) 6) := vF.1.congr (fun q g k => by rw [y0 q (by omega)]) (Int.le_refl _) (fun _ _ _ => rfl)
  generalize hI0 : pw_up I (t + 1) 5 (I (t + 1) 6) = I0 at D T5 hz hU e5 y0 n6' h4 eU FI
  obtain ⟨zn, hzn⟩ : ∃ zn : Nat, I (t + 1) 6 = zn := ⟨(I (t + 1) 6).toNat, by omega⟩
  rw [e5, hzn] at T5 hz eU
  rw [hzn] at FI e5
  rw [← eU]
  refine PW.aload_n (pc := 0) dX10_ruled_0 rfl ?_
  refine PW.getr (pc := 1) dX10_ruled_1 fl_X10_69 (by first | assumption | rfl) (by first | assumption | rfl) ?_
  refine PW.getr (pc := 4) dX10_ruled_4 fl_X10_175 (by first | assumption | rfl) (by first | assumption | rfl) ?_
  refine PW.invV0x (pc := 7) dX10_ruled_7 mv_X10_179 (c_X8_dropPassing _ aT90) (by first | assumption | rfl) rfl rfl (Nat.le_of_ble_eq_true rfl) ?_
  rw [hI0]
  refine PW.aload_n (pc := 10) dX10_ruled_10 rfl ?_
  refine PW.getr (pc := 11) dX10_ruled_11 fl_X10_48 (by first | assumption | rfl) (by first | assumption | rfl) ?_
  refine PW.aload_n (pc := 14) dX10_ruled_14 rfl ?_
  refine PW.getr (pc := 15) dX10_ruled_15 fl_X10_69 (by first | assumption | rfl) (by first | assumption | rfl) ?_
  refine PW.aload_n (pc := 18) dX10_ruled_18 rfl ?_
  refine PW.getr (pc := 19) dX10_ruled_19 fl_X10_19 (by first | assumption | rfl) (by first | assumption | rfl) ?_
  refine PW.geti (pc := 22) dX10_ruled_22 fl_X10_158 (by decide) (by first | assumption | rfl) ?_
  rw [n6']
  refine PW.invV0 (pc := 25) dX10_ruled_25 mv_X10_190 (c_X1_closeBy _ aC aT e5 T5 (by omega) FI (by omega)) (by first | assumption | rfl) rfl rfl (Nat.le_of_ble_eq_true rfl) ?_
  (rintro v Γ' I1 R' ⟨rfl, rfl, rfl, y', m1, m2⟩)
  have y : ∀ q, ¬ (58 ≤ q ∧ q ≤ 61) → I1 q = I0 q := fun q g => by funext z; exact y' q z (by omega)
  have n6'' : I1 3 2 = vi (cNow s) := by rw [y 3 (by omega)]; exact n6'
  have FI1 : FactsIs I1 t (cF s) tb zn := FI.congr (fun q g k => by rw [y q (by omega)]) (Int.le_refl _) (fun _ _ _ => rfl)
  have fr : Fr58 I0 I1 R' R' := ⟨y, fun q g => rfl, fun z g => rfl⟩
  refine PW.aload_n (pc := 28) dX10_ruled_28 rfl ?_
  refine PW.getr (pc := 29) dX10_ruled_29 fl_X10_48 (by first | assumption | rfl) (by first | assumption | rfl) ?_
  refine PW.aload_n (pc := 32) dX10_ruled_32 rfl ?_
  refine PW.getr (pc := 33) dX10_ruled_33 fl_X10_69 (by first | assumption | rfl) (by first | assumption | rfl) ?_
  refine PW.aload_n (pc := 36) dX10_ruled_36 rfl ?_
  refine PW.getr (pc := 37) dX10_ruled_37 fl_X10_19 (by first | assumption | rfl) (by first | assumption | rfl) ?_
  refine PW.geti (pc := 40) dX10_ruled_40 fl_X10_158 (by decide) (by first | assumption | rfl) ?_
  rw [n6'']
  refine PW.invV0x (pc := 43) dX10_ruled_43 mv_X10_198 (c_X1_rulesOut _ aC aT m1 (by omega) FI1 m2) (by first | assumption | rfl) rfl rfl (Nat.le_of_ble_eq_true rfl) ?_
  refine PW.if_eq (pc := 46) (tgt := 53) dX10_ruled_46 (by decide) (rg_cb _) (fun c_46 => ?_) (fun c_46 => ?_)
  · refine PW.iconst (pc := 53) dX10_ruled_53 ?_
    exact PW.ireturn (pc := 54) dX10_ruled_54 rfl (by
    first
    | (rw [cb_pos (cb1 c_46)]; exact CPo.of (fun q hq => by rw [y q (by omega), y0 q (by omega)]) (fun q hq => rfl) (D.cg fr).rel)
    | (rw [cb_neg (cb0 c_46)]; exact CPo.of (fun q hq => by rw [y q (by omega), y0 q (by omega)]) (fun q hq => rfl) (D.cg fr).rel))
  · refine PW.iconst (pc := 49) dX10_ruled_49 ?_
    refine PW.goto (pc := 50) (tgt := 54) dX10_ruled_50 (by decide) ?_
    exact PW.ireturn (pc := 54) dX10_ruled_54 rfl (by
    first
    | (rw [cb_pos (cb1 c_46)]; exact CPo.of (fun q hq => by rw [y q (by omega), y0 q (by omega)]) (fun q hq => rfl) (D.cg fr).rel)
    | (rw [cb_neg (cb0 c_46)]; exact CPo.of (fun q hq => by rw [y q (by omega), y0 q (by omega)]) (fun q hq => rfl) (D.cg fr).rel))
set_option maxRecDepth 100000 in
set_option maxHeartbeats 1000000 in
theorem p_equal (d : Nat) {I : PIm} {s : CS} {r q w : Int} (h : CRel Γ s I R) (hr : Rg r) (hq : Rg q) (hw : Rg w) : PC sc mX10_equal (d + 7) 0 0 [.inr (some 0), .inl r, .inl q, .inl w] Γ I R (CPo Γ I R (sp_equal s r q w) s) := by
  obtain ⟨t, sp, ps, tb, hCA, HP, hV⟩ := id h
  obtain ⟨⟨c0, c1, c2, c3, c4, c5, c6, c7, c8, c9, c10, c11⟩, ⟨aR, aS, aH, aF, aC, aB, a79⟩, ⟨aT, aSp, tsp⟩, g49, r490, r491, aI0, aI1, g50⟩ := id hCA
  obtain ⟨vT, vF, vB, ⟨vN, vNo⟩, ⟨vH, vHo⟩, vI, vS, vK⟩ := id hV
  have aR0 := aR.1
  obtain ⟨aS0, aS1, aS2, aS3, aS4⟩ := id aS
  have aS5 := aS4.1
  have aH0 := aH.1
  have aF0 := aF.1
  have aC0 := aC.1
  have aB0 := aB.1
  have aT0 := aT.1
  have aT1 := aT.2.1
  have aT9 := aT.2.2.2.2.2.2.2.2.2.1
  have aT90 := aT9.1
  obtain ⟨vNok, vNoF⟩ := id vNo
  obtain ⟨o1, o2, o3, o4, o5, o6⟩ := id vNok
  obtain ⟨n1, n2, n3, n4, n5, n6⟩ := id vN
  refine PC.ofPW (by decide) (Nat.le_of_ble_eq_true rfl) ?_
  unfold sp_equal
  have e3 : I 6 0 = vl (cNow s) := n3
  have e4 : I 6 1 = vf (cNow s) := n4
  have e5 : I 6 2 = vw (cNow s) := n5
  have u3 : 0 ≤ vl (cNow s) ∧ vl (cNow s) ≤ 3 := o3
  have u5 : 0 ≤ vw (cNow s) ∧ vw (cNow s) ≤ 1 := o5
  have C1 := c_X10_isRegister (sc := sc) (Γ := Γ) (R := R) (I := I) (d + 6) hr
  have C2 := c_X10_isRegister (sc := sc) (Γ := Γ) (R := R) (I := I) (d + 6) hq
  by_cases g : (0 ≤ r ∧ r ≤ 3) ∧ (0 ≤ q ∧ q ≤ 3) ∧ (0 ≤ w ∧ w ≤ 2)
  · rw [if_pos g]
    have G := c_X10_goThrough (sc := sc) (d + 1) hCA HP hV (pp := 6) (Or.inl rfl) e3 e4 e5 u3 (by omega)
    refine PW.iload_n (pc := 0) dX10_equal_0 rfl ?_
    refine PW.invS0x (pc := 1) dX10_equal_1 ms_X10_154 (C1) rfl rfl (Nat.le_of_ble_eq_true rfl) ?_
    refine PW.if_eq (pc := 4) (tgt := 23) dX10_equal_4 (by decide) (rg_bi _) (fun c_4 => ?_) (fun c_4 => ?_)
    · exact absurd g.1 (bi0 c_4)
    · refine PW.iload_n (pc := 7) dX10_equal_7 rfl ?_
      refine PW.invS0x (pc := 8) dX10_equal_8 ms_X10_154 (C2) rfl rfl (Nat.le_of_ble_eq_true rfl) ?_
      refine PW.if_eq (pc := 11) (tgt := 23) dX10_equal_11 (by decide) (rg_bi _) (fun c_11 => ?_) (fun c_11 => ?_)
      · exact absurd g.2.1 (bi0 c_11)
      · refine PW.iload_n (pc := 14) dX10_equal_14 rfl ?_
        refine PW.if_lt (pc := 15) (tgt := 23) dX10_equal_15 (by decide) (by first | omega | exact rg_of _) (fun c_15 => ?_) (fun c_15 => ?_)
        · omega
        · refine PW.iload_n (pc := 18) dX10_equal_18 rfl ?_
          refine PW.iconst (pc := 19) dX10_equal_19 ?_
          refine PW.icmp_le (pc := 20) (tgt := 25) dX10_equal_20 (by decide) (by first | omega | exact rg_of _) (by first | omega | exact rg_of _) (fun c_20 => ?_) (fun c_20 => ?_)
          · refine PW.aload_n (pc := 25) dX10_equal_25 rfl ?_
            refine PW.aload_n (pc := 26) dX10_equal_26 rfl ?_
            refine PW.getr (pc := 27) dX10_equal_27 fl_X10_19 (by first | assumption | rfl) (by first | assumption | rfl) ?_
            refine PW.getr (pc := 30) dX10_equal_30 fl_X10_161 (by first | assumption | rfl) (by first | assumption | rfl) ?_
            refine PW.invV0 (pc := 33) dX10_equal_33 mv_X10_206 (G) (by first | assumption | rfl) rfl rfl (Nat.le_of_ble_eq_true rfl) ?_
            (rintro v Γ' I' R' ⟨rfl, rfl, rfl, y, tb', A, F⟩)
            have F1 := (F.2.1 r (by omega) (by omega))
            have F2 := (F.2.1 q (by omega) (by omega))
            refine PW.aload_n (pc := 36) dX10_equal_36 rfl ?_
            refine PW.aload_n (pc := 37) dX10_equal_37 rfl ?_
            refine PW.getr (pc := 38) dX10_equal_38 fl_X10_41 (by first | assumption | rfl) (by first | assumption | rfl) ?_
            refine PW.iload_n (pc := 41) dX10_equal_41 rfl ?_
            refine PW.iload_n (pc := 42) dX10_equal_42 rfl ?_
            refine PW.iconst (pc := 43) dX10_equal_43 ?_
            refine PW.icmp_ne (pc := 44) (tgt := 51) dX10_equal_44 (by decide) (by first | omega | exact rg_of _) (by first | omega | exact rg_of _) (fun c_44 => ?_) (fun c_44 => ?_)
            · refine PW.iconst (pc := 51) dX10_equal_51 ?_
              refine PW.invV0x (pc := 52) dX10_equal_52 mv_X10_210 (c_X2_lastOf _ aF (by omega) (by omega)) (by first | assumption | rfl) rfl rfl (Nat.le_of_ble_eq_true rfl) ?_
              refine PW.aload_n (pc := 55) dX10_equal_55 rfl ?_
              refine PW.getr (pc := 56) dX10_equal_56 fl_X10_41 (by first | assumption | rfl) (by first | assumption | rfl) ?_
              refine PW.iload_n (pc := 59) dX10_equal_59 rfl ?_
              refine PW.iload_n (pc := 60) dX10_equal_60 rfl ?_
              refine PW.if_eq (pc := 61) (tgt := 68) dX10_equal_61 (by decide) (by first | omega | exact rg_of _) (fun c_61 => ?_) (fun c_61 => ?_)
              · refine PW.iconst (pc := 68) dX10_equal_68 ?_
                refine PW.invV0x (pc := 69) dX10_equal_69 mv_X10_210 (c_X2_lastOf _ aF (by omega) (by omega)) (by first | assumption | rfl) rfl rfl (Nat.le_of_ble_eq_true rfl) ?_
                refine PW.invV0 (pc := 72) dX10_equal_72 mv_X10_186 (c_X10_judge _ A (by simp only [if_pos, if_neg, Int.one_ne_zero, if_true, if_false]; omega) (by simp only [if_pos, if_neg, Int.one_ne_zero, if_true, if_false]; omega)) (by first | assumption | rfl) rfl rfl (Nat.le_of_ble_eq_true rfl) ?_
                (rintro v Γ' I2 R2 ⟨rfl, rfl, f⟩)
                refine PW.ireturn (pc := 75) dX10_equal_75 rfl ?_
                have e : CPo Γ' I R' (eqv (cUR s) (cF s) (vi (cNow s)) (regT (cNow s) r (w = 1)) (regT (cNow s) q (¬ w = 0))) s (some (.inl (eqv (cUR s) (cF s) (vi (cNow s)) (regT (cNow s) r (w = 1)) (regT (cNow s) q (¬ w = 0))))) Γ' I2 R2 := CPo.of (fun q hq => by rw [f.1 q (by omega), y q (by omega)]) (fun q hq => f.2.1 q (by omega)) (A.cg f).rel
                unfold regT at e ⊢
                first
                | (rw [if_pos c_44, if_neg (show ¬ ¬ w = 0 from fun z => z c_61)] at e ⊢; rw [← F1.2.2.2, ← F2.1.2.2] at e ⊢; exact e)
                | (rw [if_pos c_44, if_pos (show ¬ w = 0 from c_61)] at e ⊢; rw [← F1.2.2.2, ← F2.2.2.2] at e ⊢; exact e)
                | (rw [if_neg c_44, if_neg (show ¬ ¬ w = 0 from fun z => z c_61)] at e ⊢; rw [← F1.1.2.2, ← F2.1.2.2] at e ⊢; exact e)
                | (rw [if_neg c_44, if_pos (show ¬ w = 0 from c_61)] at e ⊢; rw [← F1.1.2.2, ← F2.2.2.2] at e ⊢; exact e)
              · refine PW.iconst (pc := 64) dX10_equal_64 ?_
                refine PW.goto (pc := 65) (tgt := 69) dX10_equal_65 (by decide) ?_
                refine PW.invV0x (pc := 69) dX10_equal_69 mv_X10_210 (c_X2_lastOf _ aF (by omega) (by omega)) (by first | assumption | rfl) rfl rfl (Nat.le_of_ble_eq_true rfl) ?_
                refine PW.invV0 (pc := 72) dX10_equal_72 mv_X10_186 (c_X10_judge _ A (by simp only [if_pos, if_neg, Int.one_ne_zero, if_true, if_false]; omega) (by simp only [if_pos, if_neg, Int.one_ne_zero, if_true, if_false]; omega)) (by first | assumption | rfl) rfl rfl (Nat.le_of_ble_eq_true rfl) ?_
                (rintro v Γ' I2 R2 ⟨rfl, rfl, f⟩)
                refine PW.ireturn (pc := 75) dX10_equal_75 rfl ?_
                have e : CPo Γ' I R' (eqv (cUR s) (cF s) (vi (cNow s)) (regT (cNow s) r (w = 1)) (regT (cNow s) q (¬ w = 0))) s (some (.inl (eqv (cUR s) (cF s) (vi (cNow s)) (regT (cNow s) r (w = 1)) (regT (cNow s) q (¬ w = 0))))) Γ' I2 R2 := CPo.of (fun q hq => by rw [f.1 q (by omega), y q (by omega)]) (fun q hq => f.2.1 q (by omega)) (A.cg f).rel
                unfold regT at e ⊢
                first
                | (rw [if_pos c_44, if_neg (show ¬ ¬ w = 0 from fun z => z c_61)] at e ⊢; rw [← F1.2.2.2, ← F2.1.2.2] at e ⊢; exact e)
                | (rw [if_pos c_44, if_pos (show ¬ w = 0 from c_61)] at e ⊢; rw [← F1.2.2.2, ← F2.2.2.2] at e ⊢; exact e)
                | (rw [if_neg c_44, if_neg (show ¬ ¬ w = 0 from fun z => z c_61)] at e ⊢; rw [← F1.1.2.2, ← F2.1.2.2] at e ⊢; exact e)
                | (rw [if_neg c_44, if_pos (show ¬ w = 0 from c_61)] at e ⊢; rw [← F1.1.2.2, ← F2.2.2.2] at e ⊢; exact e)
            · refine PW.iconst (pc := 47) dX10_equal_47 ?_
              refine PW.goto (pc := 48) (tgt := 52) dX10_equal_48 (by decide) ?_
              refine PW.invV0x (pc := 52) dX10_equal_52 mv_X10_210 (c_X2_lastOf _ aF (by omega) (by omega)) (by first | assumption | rfl) rfl rfl (Nat.le_of_ble_eq_true rfl) ?_
              refine PW.aload_n (pc := 55) dX10_equal_55 rfl ?_
              refine PW.getr (pc := 56) dX10_equal_56 fl_X10_41 (by first | assumption | rfl) (by first | assumption | rfl) ?_
              refine PW.iload_n (pc := 59) dX10_equal_59 rfl ?_
              refine PW.iload_n (pc := 60) dX10_equal_60 rfl ?_
              refine PW.if_eq (pc := 61) (tgt := 68) dX10_equal_61 (by decide) (by first | omega | exact rg_of _) (fun c_61 => ?_) (fun c_61 => ?_)
              · refine PW.iconst (pc := 68) dX10_equal_68 ?_
                refine PW.invV0x (pc := 69) dX10_equal_69 mv_X10_210 (c_X2_lastOf _ aF (by omega) (by omega)) (by first | assumption | rfl) rfl rfl (Nat.le_of_ble_eq_true rfl) ?_
                refine PW.invV0 (pc := 72) dX10_equal_72 mv_X10_186 (c_X10_judge _ A (by simp only [if_pos, if_neg, Int.one_ne_zero, if_true, if_false]; omega) (by simp only [if_pos, if_neg, Int.one_ne_zero, if_true, if_false]; omega)) (by first | assumption | rfl) rfl rfl (Nat.le_of_ble_eq_true rfl) ?_
                (rintro v Γ' I2 R2 ⟨rfl, rfl, f⟩)
                refine PW.ireturn (pc := 75) dX10_equal_75 rfl ?_
                have e : CPo Γ' I R' (eqv (cUR s) (cF s) (vi (cNow s)) (regT (cNow s) r (w = 1)) (regT (cNow s) q (¬ w = 0))) s (some (.inl (eqv (cUR s) (cF s) (vi (cNow s)) (regT (cNow s) r (w = 1)) (regT (cNow s) q (¬ w = 0))))) Γ' I2 R2 := CPo.of (fun q hq => by rw [f.1 q (by omega), y q (by omega)]) (fun q hq => f.2.1 q (by omega)) (A.cg f).rel
                unfold regT at e ⊢
                first
                | (rw [if_pos c_44, if_neg (show ¬ ¬ w = 0 from fun z => z c_61)] at e ⊢; rw [← F1.2.2.2, ← F2.1.2.2] at e ⊢; exact e)
                | (rw [if_pos c_44, if_pos (show ¬ w = 0 from c_61)] at e ⊢; rw [← F1.2.2.2, ← F2.2.2.2] at e ⊢; exact e)
                | (rw [if_neg c_44, if_neg (show ¬ ¬ w = 0 from fun z => z c_61)] at e ⊢; rw [← F1.1.2.2, ← F2.1.2.2] at e ⊢; exact e)
                | (rw [if_neg c_44, if_pos (show ¬ w = 0 from c_61)] at e ⊢; rw [← F1.1.2.2, ← F2.2.2.2] at e ⊢; exact e)
              · refine PW.iconst (pc := 64) dX10_equal_64 ?_
                refine PW.goto (pc := 65) (tgt := 69) dX10_equal_65 (by decide) ?_
                refine PW.invV0x (pc := 69) dX10_equal_69 mv_X10_210 (c_X2_lastOf _ aF (by omega) (by omega)) (by first | assumption | rfl) rfl rfl (Nat.le_of_ble_eq_true rfl) ?_
                refine PW.invV0 (pc := 72) dX10_equal_72 mv_X10_186 (c_X10_judge _ A (by simp only [if_pos, if_neg, Int.one_ne_zero, if_true, if_false]; omega) (by simp only [if_pos, if_neg, Int.one_ne_zero, if_true, if_false]; omega)) (by first | assumption | rfl) rfl rfl (Nat.le_of_ble_eq_true rfl) ?_
                (rintro v Γ' I2 R2 ⟨rfl, rfl, f⟩)
                refine PW.ireturn (pc := 75) dX10_equal_75 rfl ?_
                have e : CPo Γ' I R' (eqv (cUR s) (cF s) (vi (cNow s)) (regT (cNow s) r (w = 1)) (regT (cNow s) q (¬ w = 0))) s (some (.inl (eqv (cUR s) (cF s) (vi (cNow s)) (regT (cNow s) r (w = 1)) (regT (cNow s) q (¬ w = 0))))) Γ' I2 R2 := CPo.of (fun q hq => by rw [f.1 q (by omega), y q (by omega)]) (fun q hq => f.2.1 q (by omega)) (A.cg f).rel
                unfold regT at e ⊢
                first
                | (rw [if_pos c_44, if_neg (show ¬ ¬ w = 0 from fun z => z c_61)] at e ⊢; rw [← F1.2.2.2, ← F2.1.2.2] at e ⊢; exact e)
                | (rw [if_pos c_44, if_pos (show ¬ w = 0 from c_61)] at e ⊢; rw [← F1.2.2.2, ← F2.2.2.2] at e ⊢; exact e)
                | (rw [if_neg c_44, if_neg (show ¬ ¬ w = 0 from fun z => z c_61)] at e ⊢; rw [← F1.1.2.2, ← F2.1.2.2] at e ⊢; exact e)
                | (rw [if_neg c_44, if_pos (show ¬ w = 0 from c_61)] at e ⊢; rw [← F1.1.2.2, ← F2.2.2.2] at e ⊢; exact e)
          · omega
  · rw [if_neg g]
    refine PW.iload_n (pc := 0) dX10_equal_0 rfl ?_
    refine PW.invS0x (pc := 1) dX10_equal_1 ms_X10_154 (C1) rfl rfl (Nat.le_of_ble_eq_true rfl) ?_
    refine PW.if_eq (pc := 4) (tgt := 23) dX10_equal_4 (by decide) (rg_bi _) (fun c_4 => ?_) (fun c_4 => ?_)
    · refine PW.iconst (pc := 23) dX10_equal_23 ?_
      exact PW.ireturn (pc := 24) dX10_equal_24 rfl (CPo.same h)
    · refine PW.iload_n (pc := 7) dX10_equal_7 rfl ?_
      refine PW.invS0x (pc := 8) dX10_equal_8 ms_X10_154 (C2) rfl rfl (Nat.le_of_ble_eq_true rfl) ?_
      refine PW.if_eq (pc := 11) (tgt := 23) dX10_equal_11 (by decide) (rg_bi _) (fun c_11 => ?_) (fun c_11 => ?_)
      · refine PW.iconst (pc := 23) dX10_equal_23 ?_
        exact PW.ireturn (pc := 24) dX10_equal_24 rfl (CPo.same h)
      · refine PW.iload_n (pc := 14) dX10_equal_14 rfl ?_
        refine PW.if_lt (pc := 15) (tgt := 23) dX10_equal_15 (by decide) (by first | omega | exact rg_of _) (fun c_15 => ?_) (fun c_15 => ?_)
        · refine PW.iconst (pc := 23) dX10_equal_23 ?_
          exact PW.ireturn (pc := 24) dX10_equal_24 rfl (CPo.same h)
        · refine PW.iload_n (pc := 18) dX10_equal_18 rfl ?_
          refine PW.iconst (pc := 19) dX10_equal_19 ?_
          refine PW.icmp_le (pc := 20) (tgt := 25) dX10_equal_20 (by decide) (by first | omega | exact rg_of _) (by first | omega | exact rg_of _) (fun c_20 => ?_) (fun c_20 => ?_)
          · exact absurd ⟨bi1 c_4, bi1 c_11, by omega, by omega⟩ g
          · refine PW.iconst (pc := 23) dX10_equal_23 ?_
            exact PW.ireturn (pc := 24) dX10_equal_24 rfl (CPo.same h)
end JUDGE
