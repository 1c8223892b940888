section WRONG
variable {sc : PSc} {Γ : List PTy} {R : PRm}
set_option maxRecDepth 100000 in
set_option maxHeartbeats 1000000 in
theorem p_deep (d : Nat) {I : PIm} {s : CS} {r w : Int} (h : CRel Γ s I R) (hr : Rg r) (hw : Rg w) : PC sc mX10_deep (d + 6) 0 0 [.inr (some 0), .inl r, .inl w] Γ I R (CPo Γ I R (sp_deep s r w) s) := by
  obtain ⟨t, sp, ps, tb, hCA, HP, hV⟩ := id h
  obtain ⟨⟨c0, c1, c2, c3, c4, c5, c6, c7, c8, c9, c10, c11⟩, ⟨aR, aS, aH, aF, aC, aB, a79⟩, ⟨aT, aSp, tsp⟩, g49, r490, r491, aI0, aI1, g50⟩ := id hCA
  obtain ⟨vT, vF, vB, ⟨vN, vNo⟩, ⟨vH, vHo⟩, vI, vS, vK⟩ := id hV
  have aR0 := aR.1
  obtain ⟨aS0, aS1, aS2, aS3, aS4⟩ := id aS
  have aS5 := aS4.1
  have aH0 := aH.1
  have aF0 := aF.1
  have aC0 := aC.1
  have aB0 := aB.1
  have aT0 := aT.1
  have aT1 := aT.2.1
  have aT9 := aT.2.2.2.2.2.2.2.2.2.1
  have aT90 := aT9.1
  obtain ⟨vNok, vNoF⟩ := id vNo
  obtain ⟨o1, o2, o3, o4, o5, o6⟩ := id vNok
  obtain ⟨n1, n2, n3, n4, n5, n6⟩ := id vN
  refine PC.ofPW (by decide) (Nat.le_of_ble_eq_true rfl) ?_
  unfold sp_deep
  have e3 : I 6 0 = vl (cNow s) := n3
  have e4 : I 6 1 = vf (cNow s) := n4
  have e5 : I 6 2 = vw (cNow s) := n5
  have u3 : 0 ≤ vl (cNow s) ∧ vl (cNow s) ≤ 3 := o3
  have u5 : 0 ≤ vw (cNow s) ∧ vw (cNow s) ≤ 1 := o5
  have C1 := c_X10_isRegister (sc := sc) (Γ := Γ) (R := R) (I := I) (d + 5) hr
  by_cases g : (0 ≤ r ∧ r ≤ 3) ∧ (0 ≤ w ∧ w ≤ 1)
  · rw [if_pos g]
    have G := c_X10_goThrough (sc := sc) d hCA HP hV (pp := 6) (Or.inl rfl) e3 e4 e5 u3 (by omega)
    refine PW.iload_n (pc := 0) dX10_deep_0 rfl ?_
    refine PW.invS0x (pc := 1) dX10_deep_1 ms_X10_154 (C1) rfl rfl (Nat.le_of_ble_eq_true rfl) ?_
    refine PW.if_eq (pc := 4) (tgt := 16) dX10_deep_4 (by decide) (rg_bi _) (fun c_4 => ?_) (fun c_4 => ?_)
    · exact absurd g.1 (bi0 c_4)
    · refine PW.iload_n (pc := 7) dX10_deep_7 rfl ?_
      refine PW.if_lt (pc := 8) (tgt := 16) dX10_deep_8 (by decide) (by first | omega | exact rg_of _) (fun c_8 => ?_) (fun c_8 => ?_)
      · omega
      · refine PW.iload_n (pc := 11) dX10_deep_11 rfl ?_
        refine PW.iconst (pc := 12) dX10_deep_12 ?_
        refine PW.icmp_le (pc := 13) (tgt := 18) dX10_deep_13 (by decide) (by first | omega | exact rg_of _) (by first | omega | exact rg_of _) (fun c_13 => ?_) (fun c_13 => ?_)
        · refine PW.aload_n (pc := 18) dX10_deep_18 rfl ?_
          refine PW.aload_n (pc := 19) dX10_deep_19 rfl ?_
          refine PW.getr (pc := 20) dX10_deep_20 fl_X10_19 (by first | assumption | rfl) (by first | assumption | rfl) ?_
          refine PW.getr (pc := 23) dX10_deep_23 fl_X10_161 (by first | assumption | rfl) (by first | assumption | rfl) ?_
          refine PW.invV0 (pc := 26) dX10_deep_26 mv_X10_206 (G) (by first | assumption | rfl) rfl rfl (Nat.le_of_ble_eq_true rfl) ?_
          (rintro v Γ' I' R' ⟨rfl, rfl, rfl, y, tb', A, F⟩)
          have F1 := (F.2.1 r (by omega) (by omega))
          have hz := A.2.2.1
          refine PW.aload_n (pc := 29) dX10_deep_29 rfl ?_
          refine PW.getr (pc := 30) dX10_deep_30 fl_X10_69 (by first | assumption | rfl) (by first | assumption | rfl) ?_
          refine PW.getr (pc := 33) dX10_deep_33 fl_X10_175 (by first | assumption | rfl) (by first | assumption | rfl) ?_
          refine PW.aload_n (pc := 36) dX10_deep_36 rfl ?_
          refine PW.getr (pc := 37) dX10_deep_37 fl_X10_41 (by first | assumption | rfl) (by first | assumption | rfl) ?_
          refine PW.iload_n (pc := 40) dX10_deep_40 rfl ?_
          refine PW.iload_n (pc := 41) dX10_deep_41 rfl ?_
          refine PW.iconst (pc := 42) dX10_deep_42 ?_
          refine PW.icmp_ne (pc := 43) (tgt := 50) dX10_deep_43 (by decide) (by first | omega | exact rg_of _) (by first | omega | exact rg_of _) (fun c_43 => ?_) (fun c_43 => ?_)
          · refine PW.iconst (pc := 50) dX10_deep_50 ?_
            refine PW.invV0x (pc := 51) dX10_deep_51 mv_X10_210 (c_X2_lastOf _ aF (by omega) (by omega)) (by first | assumption | rfl) rfl rfl (Nat.le_of_ble_eq_true rfl) ?_
            refine PW.invV0x (pc := 54) dX10_deep_54 mv_X10_222 (c_X8_depthOf _ aT9 F.1 (by omega) (by simp only [if_pos, if_neg, Int.one_ne_zero, if_true, if_false]; omega) (by simp only [if_pos, if_neg, Int.one_ne_zero, if_true, if_false]; omega)) (by first | assumption | rfl) rfl rfl (Nat.le_of_ble_eq_true rfl) ?_
            exact PW.ireturn (pc := 57) dX10_deep_57 rfl (by
            have e : CPo Γ' I R' (dep (regT (cNow s) r (w = 1))) s (some (.inl (dep (regT (cNow s) r (w = 1))))) Γ' I' R' := CPo.of (fun q hq => y q (by omega)) (fun q hq => rfl) A.rel
            unfold regT at e ⊢
            first
            | (rw [if_pos c_43] at e ⊢; rw [← F1.2.2.2] at e ⊢; exact e)
            | (rw [if_neg c_43] at e ⊢; rw [← F1.1.2.2] at e ⊢; exact e))
          · refine PW.iconst (pc := 46) dX10_deep_46 ?_
            refine PW.goto (pc := 47) (tgt := 51) dX10_deep_47 (by decide) ?_
            refine PW.invV0x (pc := 51) dX10_deep_51 mv_X10_210 (c_X2_lastOf _ aF (by omega) (by omega)) (by first | assumption | rfl) rfl rfl (Nat.le_of_ble_eq_true rfl) ?_
            refine PW.invV0x (pc := 54) dX10_deep_54 mv_X10_222 (c_X8_depthOf _ aT9 F.1 (by omega) (by simp only [if_pos, if_neg, Int.one_ne_zero, if_true, if_false]; omega) (by simp only [if_pos, if_neg, Int.one_ne_zero, if_true, if_false]; omega)) (by first | assumption | rfl) rfl rfl (Nat.le_of_ble_eq_true rfl) ?_
            exact PW.ireturn (pc := 57) dX10_deep_57 rfl (by
            have e : CPo Γ' I R' (dep (regT (cNow s) r (w = 1))) s (some (.inl (dep (regT (cNow s) r (w = 1))))) Γ' I' R' := CPo.of (fun q hq => y q (by omega)) (fun q hq => rfl) A.rel
            unfold regT at e ⊢
            first
            | (rw [if_pos c_43] at e ⊢; rw [← F1.2.2.2] at e ⊢; exact e)
            | (rw [if_neg c_43] at e ⊢; rw [← F1.1.2.2] at e ⊢; exact e))
        · omega
  · rw [if_neg g]
    refine PW.iload_n (pc := 0) dX10_deep_0 rfl ?_
    refine PW.invS0x (pc := 1) dX10_deep_1 ms_X10_154 (C1) rfl rfl (Nat.le_of_ble_eq_true rfl) ?_
    refine PW.if_eq (pc := 4) (tgt := 16) dX10_deep_4 (by decide) (rg_bi _) (fun c_4 => ?_) (fun c_4 => ?_)
    · refine PW.iconst (pc := 16) dX10_deep_16 ?_
      exact PW.ireturn (pc := 17) dX10_deep_17 rfl (CPo.same h)
    · refine PW.iload_n (pc := 7) dX10_deep_7 rfl ?_
      refine PW.if_lt (pc := 8) (tgt := 16) dX10_deep_8 (by decide) (by first | omega | exact rg_of _) (fun c_8 => ?_) (fun c_8 => ?_)
      · refine PW.iconst (pc := 16) dX10_deep_16 ?_
        exact PW.ireturn (pc := 17) dX10_deep_17 rfl (CPo.same h)
      · refine PW.iload_n (pc := 11) dX10_deep_11 rfl ?_
        refine PW.iconst (pc := 12) dX10_deep_12 ?_
        refine PW.icmp_le (pc := 13) (tgt := 18) dX10_deep_13 (by decide) (by first | omega | exact rg_of _) (by first | omega | exact rg_of _) (fun c_13 => ?_) (fun c_13 => ?_)
        · exact absurd ⟨bi1 c_4, by omega, by omega⟩ g
        · refine PW.iconst (pc := 16) dX10_deep_16 ?_
          exact PW.ireturn (pc := 17) dX10_deep_17 rfl (CPo.same h)
set_option maxRecDepth 100000 in
set_option maxHeartbeats 1000000 in
theorem p_term (d : Nat) {I : PIm} {s : CS} {r w k : Int} (h : CRel Γ s I R) (hr : Rg r) (hw : Rg w) (hk : Rg k) : PC sc mX10_term (d + 6) 0 0 [.inr (some 0), .inl r, .inl w, .inl k] Γ I R (CPo Γ I R (sp_term s r w k) s) := by
  obtain ⟨t, sp, ps, tb, hCA, HP, hV⟩ := id h
  obtain ⟨⟨c0, c1, c2, c3, c4, c5, c6, c7, c8, c9, c10, c11⟩, ⟨aR, aS, aH, aF, aC, aB, a79⟩, ⟨aT, aSp, tsp⟩, g49, r490, r491, aI0, aI1, g50⟩ := id hCA
  obtain ⟨vT, vF, vB, ⟨vN, vNo⟩, ⟨vH, vHo⟩, vI, vS, vK⟩ := id hV
  have aR0 := aR.1
  obtain ⟨aS0, aS1, aS2, aS3, aS4⟩ := id aS
  have aS5 := aS4.1
  have aH0 := aH.1
  have aF0 := aF.1
  have aC0 := aC.1
  have aB0 := aB.1
  have aT0 := aT.1
  have aT1 := aT.2.1
  have aT9 := aT.2.2.2.2.2.2.2.2.2.1
  have aT90 := aT9.1
  obtain ⟨vNok, vNoF⟩ := id vNo
  obtain ⟨o1, o2, o3, o4, o5, o6⟩ := id vNok
  obtain ⟨n1, n2, n3, n4, n5, n6⟩ := id vN
  refine PC.ofPW (by decide) (Nat.le_of_ble_eq_true rfl) ?_
  unfold sp_term
  have e3 : I 6 0 = vl (cNow s) := n3
  have e4 : I 6 1 = vf (cNow s) := n4
  have e5 : I 6 2 = vw (cNow s) := n5
  have u3 : 0 ≤ vl (cNow s) ∧ vl (cNow s) ≤ 3 := o3
  have u5 : 0 ≤ vw (cNow s) ∧ vw (cNow s) ≤ 1 := o5
  have C1 := c_X10_isRegister (sc := sc) (Γ := Γ) (R := R) (I := I) (d + 5) hr
  have SZ := siz_reg (v := cNow s) o1 r (w = 1)
  by_cases g : (0 ≤ r ∧ r ≤ 3) ∧ (0 ≤ w ∧ w ≤ 1) ∧ 0 ≤ k
  · rw [if_pos g]
    have G := c_X10_goThrough (sc := sc) d hCA HP hV (pp := 6) (Or.inl rfl) e3 e4 e5 u3 (by omega)
    refine PW.iload_n (pc := 0) dX10_term_0 rfl ?_
    refine PW.invS0x (pc := 1) dX10_term_1 ms_X10_154 (C1) rfl rfl (Nat.le_of_ble_eq_true rfl) ?_
    refine PW.if_eq (pc := 4) (tgt := 20) dX10_term_4 (by decide) (rg_bi _) (fun c_4 => ?_) (fun c_4 => ?_)
    · exact absurd g.1 (bi0 c_4)
    · refine PW.iload_n (pc := 7) dX10_term_7 rfl ?_
      refine PW.if_lt (pc := 8) (tgt := 20) dX10_term_8 (by decide) (by first | omega | exact rg_of _) (fun c_8 => ?_) (fun c_8 => ?_)
      · omega
      · refine PW.iload_n (pc := 11) dX10_term_11 rfl ?_
        refine PW.iconst (pc := 12) dX10_term_12 ?_
        refine PW.icmp_gt (pc := 13) (tgt := 20) dX10_term_13 (by decide) (by first | omega | exact rg_of _) (by first | omega | exact rg_of _) (fun c_13 => ?_) (fun c_13 => ?_)
        · omega
        · refine PW.iload_n (pc := 16) dX10_term_16 rfl ?_
          refine PW.if_ge (pc := 17) (tgt := 22) dX10_term_17 (by decide) (by first | omega | exact rg_of _) (fun c_17 => ?_) (fun c_17 => ?_)
          · refine PW.aload_n (pc := 22) dX10_term_22 rfl ?_
            refine PW.aload_n (pc := 23) dX10_term_23 rfl ?_
            refine PW.getr (pc := 24) dX10_term_24 fl_X10_19 (by first | assumption | rfl) (by first | assumption | rfl) ?_
            refine PW.getr (pc := 27) dX10_term_27 fl_X10_161 (by first | assumption | rfl) (by first | assumption | rfl) ?_
            refine PW.invV0 (pc := 30) dX10_term_30 mv_X10_206 (G) (by first | assumption | rfl) rfl rfl (Nat.le_of_ble_eq_true rfl) ?_
            (rintro v Γ' I' R' ⟨rfl, rfl, rfl, y, tb', A, F⟩)
            have F1 := (F.2.1 r (by omega) (by omega))
            have hz := A.2.2.1
            have e : CPo Γ' I R' (ltr (regT (cNow s) r (w = 1)) k) s (some (.inl (ltr (regT (cNow s) r (w = 1)) k))) Γ' I' R' := CPo.of (fun q hq => y q (by omega)) (fun q hq => rfl) A.rel
            unfold regT at e SZ ⊢
            refine PW.aload_n (pc := 33) dX10_term_33 rfl ?_
            refine PW.getr (pc := 34) dX10_term_34 fl_X10_69 (by first | assumption | rfl) (by first | assumption | rfl) ?_
            refine PW.getr (pc := 37) dX10_term_37 fl_X10_175 (by first | assumption | rfl) (by first | assumption | rfl) ?_
            refine PW.aload_n (pc := 40) dX10_term_40 rfl ?_
            refine PW.getr (pc := 41) dX10_term_41 fl_X10_41 (by first | assumption | rfl) (by first | assumption | rfl) ?_
            refine PW.iload_n (pc := 44) dX10_term_44 rfl ?_
            refine PW.iload_n (pc := 45) dX10_term_45 rfl ?_
            refine PW.iconst (pc := 46) dX10_term_46 ?_
            refine PW.icmp_ne (pc := 47) (tgt := 54) dX10_term_47 (by decide) (by first | omega | exact rg_of _) (by first | omega | exact rg_of _) (fun c_47 => ?_) (fun c_47 => ?_)
            · rw [if_neg c_47] at e SZ ⊢; rw [← F1.1.2.2] at e SZ ⊢
              refine PW.iconst (pc := 54) dX10_term_54 ?_
              refine PW.invV0x (pc := 55) dX10_term_55 mv_X10_210 (c_X2_lastOf _ aF (by omega) (by omega)) (by first | assumption | rfl) rfl rfl (Nat.le_of_ble_eq_true rfl) ?_
              refine PW.iload_n (pc := 58) dX10_term_58 rfl ?_
              refine PW.invV0x (pc := 59) dX10_term_59 mv_X10_225 (c_X8_letterOf _ aT9 F.1 (by omega) (by omega) (by omega) SZ hk) (by first | assumption | rfl) rfl rfl (Nat.le_of_ble_eq_true rfl) ?_
              exact PW.ireturn (pc := 62) dX10_term_62 rfl (e)
            · rw [if_pos c_47] at e SZ ⊢; rw [← F1.2.2.2] at e SZ ⊢
              refine PW.iconst (pc := 50) dX10_term_50 ?_
              refine PW.goto (pc := 51) (tgt := 55) dX10_term_51 (by decide) ?_
              refine PW.invV0x (pc := 55) dX10_term_55 mv_X10_210 (c_X2_lastOf _ aF (by omega) (by omega)) (by first | assumption | rfl) rfl rfl (Nat.le_of_ble_eq_true rfl) ?_
              refine PW.iload_n (pc := 58) dX10_term_58 rfl ?_
              refine PW.invV0x (pc := 59) dX10_term_59 mv_X10_225 (c_X8_letterOf _ aT9 F.1 (by omega) (by omega) (by omega) SZ hk) (by first | assumption | rfl) rfl rfl (Nat.le_of_ble_eq_true rfl) ?_
              exact PW.ireturn (pc := 62) dX10_term_62 rfl (e)
          · omega
  · rw [if_neg g]
    refine PW.iload_n (pc := 0) dX10_term_0 rfl ?_
    refine PW.invS0x (pc := 1) dX10_term_1 ms_X10_154 (C1) rfl rfl (Nat.le_of_ble_eq_true rfl) ?_
    refine PW.if_eq (pc := 4) (tgt := 20) dX10_term_4 (by decide) (rg_bi _) (fun c_4 => ?_) (fun c_4 => ?_)
    · refine PW.iconst (pc := 20) dX10_term_20 ?_
      exact PW.ireturn (pc := 21) dX10_term_21 rfl (CPo.same h)
    · refine PW.iload_n (pc := 7) dX10_term_7 rfl ?_
      refine PW.if_lt (pc := 8) (tgt := 20) dX10_term_8 (by decide) (by first | omega | exact rg_of _) (fun c_8 => ?_) (fun c_8 => ?_)
      · refine PW.iconst (pc := 20) dX10_term_20 ?_
        exact PW.ireturn (pc := 21) dX10_term_21 rfl (CPo.same h)
      · refine PW.iload_n (pc := 11) dX10_term_11 rfl ?_
        refine PW.iconst (pc := 12) dX10_term_12 ?_
        refine PW.icmp_gt (pc := 13) (tgt := 20) dX10_term_13 (by decide) (by first | omega | exact rg_of _) (by first | omega | exact rg_of _) (fun c_13 => ?_) (fun c_13 => ?_)
        · refine PW.iconst (pc := 20) dX10_term_20 ?_
          exact PW.ireturn (pc := 21) dX10_term_21 rfl (CPo.same h)
        · refine PW.iload_n (pc := 16) dX10_term_16 rfl ?_
          refine PW.if_ge (pc := 17) (tgt := 22) dX10_term_17 (by decide) (by first | omega | exact rg_of _) (fun c_17 => ?_) (fun c_17 => ?_)
          · exact absurd ⟨bi1 c_4, ⟨by omega, by omega⟩, by omega⟩ g
          · refine PW.iconst (pc := 20) dX10_term_20 ?_
            exact PW.ireturn (pc := 21) dX10_term_21 rfl (CPo.same h)
set_option maxRecDepth 100000 in
set_option maxHeartbeats 1000000 in
theorem p_step (d : Nat) {I : PIm} {s : CS} {k : Int} (h : CRel Γ s I R) (hk : Rg k) : PC sc mX10_step (d + 6) 0 0 [.inr (some 0), .inl k] Γ I R (CPo Γ I R (sp_step s k) s) := by
  obtain ⟨t, sp, ps, tb, hCA, HP, hV⟩ := id h
  obtain ⟨⟨c0, c1, c2, c3, c4, c5, c6, c7, c8, c9, c10, c11⟩, ⟨aR, aS, aH, aF, aC, aB, a79⟩, ⟨aT, aSp, tsp⟩, g49, r490, r491, aI0, aI1, g50⟩ := id hCA
  obtain ⟨vT, vF, vB, ⟨vN, vNo⟩, ⟨vH, vHo⟩, vI, vS, vK⟩ := id hV
  have aR0 := aR.1
  obtain ⟨aS0, aS1, aS2, aS3, aS4⟩ := id aS
  have aS5 := aS4.1
  have aH0 := aH.1
  have aF0 := aF.1
  have aC0 := aC.1
  have aB0 := aB.1
  have aT0 := aT.1
  have aT1 := aT.2.1
  have aT9 := aT.2.2.2.2.2.2.2.2.2.1
  have aT90 := aT9.1
  obtain ⟨vNok, vNoF⟩ := id vNo
  obtain ⟨o1, o2, o3, o4, o5, o6⟩ := id vNok
  obtain ⟨n1, n2, n3, n4, n5, n6⟩ := id vN
  refine PC.ofPW (by decide) (Nat.le_of_ble_eq_true rfl) ?_
  unfold sp_step
  have e3 : I 6 0 = vl (cNow s) := n3
  have e4 : I 6 1 = vf (cNow s) := n4
  have e5 : I 6 2 = vw (cNow s) := n5
  have u3 : 0 ≤ vl (cNow s) ∧ vl (cNow s) ≤ 3 := o3
  have u5 : 0 ≤ vw (cNow s) ∧ vw (cNow s) ≤ 1 := o5
  have hn : I (3 + 1) 1 = (vn (cNow s) : Int) := n1
  have hn6 : vn (cNow s) ≤ 6 := o1
  have C1 := c_X5_has (sc := sc) (Γ := Γ) (R := R) (I := I) (d + 5) (h := 3 + 1) (k := k) aS5 hk (by omega)
  by_cases g : 0 ≤ k ∧ k < (vn (cNow s) : Int)
  · rw [if_pos g]
    have G := c_X10_goThrough (sc := sc) d hCA HP hV (pp := 6) (Or.inl rfl) e3 e4 e5 u3 (by omega)
    refine PW.aload_n (pc := 0) dX10_step_0 rfl ?_
    refine PW.getr (pc := 1) dX10_step_1 fl_X10_19 (by first | assumption | rfl) (by first | assumption | rfl) ?_
    refine PW.getr (pc := 4) dX10_step_4 fl_X10_111 (by first | assumption | rfl) (by first | assumption | rfl) ?_
    refine PW.iload_n (pc := 7) dX10_step_7 rfl ?_
    refine PW.invV0x (pc := 8) dX10_step_8 mv_X10_115 (C1) (by first | assumption | rfl) rfl rfl (Nat.le_of_ble_eq_true rfl) ?_
    refine PW.if_ne (pc := 11) (tgt := 16) dX10_step_11 (by decide) (rg_bi _) (fun c_11 => ?_) (fun c_11 => ?_)
    · refine PW.aload_n (pc := 16) dX10_step_16 rfl ?_
      refine PW.aload_n (pc := 17) dX10_step_17 rfl ?_
      refine PW.getr (pc := 18) dX10_step_18 fl_X10_19 (by first | assumption | rfl) (by first | assumption | rfl) ?_
      refine PW.getr (pc := 21) dX10_step_21 fl_X10_161 (by first | assumption | rfl) (by first | assumption | rfl) ?_
      refine PW.invV0 (pc := 24) dX10_step_24 mv_X10_206 (G) (by first | assumption | rfl) rfl rfl (Nat.le_of_ble_eq_true rfl) ?_
      (rintro v Γ' I' R' ⟨rfl, rfl, rfl, y, tb', A, F⟩)
      refine PW.aload_n (pc := 27) dX10_step_27 rfl ?_
      refine PW.getr (pc := 28) dX10_step_28 fl_X10_41 (by first | assumption | rfl) (by first | assumption | rfl) ?_
      refine PW.iload_n (pc := 31) dX10_step_31 rfl ?_
      refine PW.invV0x (pc := 32) dX10_step_32 mv_X10_228 (c_X2_stepAt _ aF (by omega)) (by first | assumption | rfl) rfl rfl (Nat.le_of_ble_eq_true rfl) ?_
      rw [F.2.2 k g.1 g.2]
      exact PW.ireturn (pc := 35) dX10_step_35 rfl (CPo.of (fun q hq => y q (by omega)) (fun q hq => rfl) A.rel)
    · exact absurd c_11 (by rw [bi_pos (by omega)]; omega)
  · rw [if_neg g]
    refine PW.aload_n (pc := 0) dX10_step_0 rfl ?_
    refine PW.getr (pc := 1) dX10_step_1 fl_X10_19 (by first | assumption | rfl) (by first | assumption | rfl) ?_
    refine PW.getr (pc := 4) dX10_step_4 fl_X10_111 (by first | assumption | rfl) (by first | assumption | rfl) ?_
    refine PW.iload_n (pc := 7) dX10_step_7 rfl ?_
    refine PW.invV0x (pc := 8) dX10_step_8 mv_X10_115 (C1) (by first | assumption | rfl) rfl rfl (Nat.le_of_ble_eq_true rfl) ?_
    refine PW.if_ne (pc := 11) (tgt := 16) dX10_step_11 (by decide) (rg_bi _) (fun c_11 => ?_) (fun c_11 => ?_)
    · exact absurd (bi1 c_11) (by omega)
    · refine PW.iconst (pc := 14) dX10_step_14 ?_
      exact PW.ireturn (pc := 15) dX10_step_15 rfl (CPo.same h)
set_option maxRecDepth 100000 in
set_option maxHeartbeats 1000000 in
theorem p_length (d : Nat) {I : PIm} {s : CS} (h : CRel Γ s I R) : PC sc mX10_length (d + 6) 0 0 [.inr (some 0)] Γ I R (CPo Γ I R (sp_length s) s) := by
  obtain ⟨t, sp, ps, tb, hCA, HP, hV⟩ := id h
  obtain ⟨⟨c0, c1, c2, c3, c4, c5, c6, c7, c8, c9, c10, c11⟩, ⟨aR, aS, aH, aF, aC, aB, a79⟩, ⟨aT, aSp, tsp⟩, g49, r490, r491, aI0, aI1, g50⟩ := id hCA
  obtain ⟨vT, vF, vB, ⟨vN, vNo⟩, ⟨vH, vHo⟩, vI, vS, vK⟩ := id hV
  have aR0 := aR.1
  obtain ⟨aS0, aS1, aS2, aS3, aS4⟩ := id aS
  have aS5 := aS4.1
  have aH0 := aH.1
  have aF0 := aF.1
  have aC0 := aC.1
  have aB0 := aB.1
  have aT0 := aT.1
  have aT1 := aT.2.1
  have aT9 := aT.2.2.2.2.2.2.2.2.2.1
  have aT90 := aT9.1
  obtain ⟨vNok, vNoF⟩ := id vNo
  obtain ⟨o1, o2, o3, o4, o5, o6⟩ := id vNok
  obtain ⟨n1, n2, n3, n4, n5, n6⟩ := id vN
  refine PC.ofPW (by decide) (Nat.le_of_ble_eq_true rfl) ?_
  unfold sp_length
  have e3 : I 6 0 = vl (cNow s) := n3
  have e4 : I 6 1 = vf (cNow s) := n4
  have e5 : I 6 2 = vw (cNow s) := n5
  have u3 : 0 ≤ vl (cNow s) ∧ vl (cNow s) ≤ 3 := o3
  have u5 : 0 ≤ vw (cNow s) ∧ vw (cNow s) ≤ 1 := o5
  have hn : I (3 + 1) 1 = (vn (cNow s) : Int) := n1
  have hn6 : vn (cNow s) ≤ 6 := o1
  by_cases g : vn (cNow s) = 0
  · rw [if_pos g]
    refine PW.aload_n (pc := 0) dX10_length_0 rfl ?_
    refine PW.getr (pc := 1) dX10_length_1 fl_X10_19 (by first | assumption | rfl) (by first | assumption | rfl) ?_
    refine PW.getr (pc := 4) dX10_length_4 fl_X10_111 (by first | assumption | rfl) (by first | assumption | rfl) ?_
    refine PW.geti (pc := 7) dX10_length_7 fl_X10_137 (by decide) (by first | assumption | rfl) ?_
    refine PW.if_ne (pc := 10) (tgt := 15) dX10_length_10 (by decide) (by first | omega | exact rg_of _) (fun c_10 => ?_) (fun c_10 => ?_)
    · omega
    · refine PW.iconst (pc := 13) dX10_length_13 ?_
      exact PW.ireturn (pc := 14) dX10_length_14 rfl (CPo.same h)
  · rw [if_neg g]
    have G := c_X10_goThrough (sc := sc) d hCA HP hV (pp := 6) (Or.inl rfl) e3 e4 e5 u3 (by omega)
    refine PW.aload_n (pc := 0) dX10_length_0 rfl ?_
    refine PW.getr (pc := 1) dX10_length_1 fl_X10_19 (by first | assumption | rfl) (by first | assumption | rfl) ?_
    refine PW.getr (pc := 4) dX10_length_4 fl_X10_111 (by first | assumption | rfl) (by first | assumption | rfl) ?_
    refine PW.geti (pc := 7) dX10_length_7 fl_X10_137 (by decide) (by first | assumption | rfl) ?_
    refine PW.if_ne (pc := 10) (tgt := 15) dX10_length_10 (by decide) (by first | omega | exact rg_of _) (fun c_10 => ?_) (fun c_10 => ?_)
    · refine PW.aload_n (pc := 15) dX10_length_15 rfl ?_
      refine PW.aload_n (pc := 16) dX10_length_16 rfl ?_
      refine PW.getr (pc := 17) dX10_length_17 fl_X10_19 (by first | assumption | rfl) (by first | assumption | rfl) ?_
      refine PW.getr (pc := 20) dX10_length_20 fl_X10_161 (by first | assumption | rfl) (by first | assumption | rfl) ?_
      refine PW.invV0 (pc := 23) dX10_length_23 mv_X10_206 (G) (by first | assumption | rfl) rfl rfl (Nat.le_of_ble_eq_true rfl) ?_
      (rintro v Γ' I' R' ⟨rfl, rfl, rfl, y, tb', A, F⟩)
      refine PW.aload_n (pc := 26) dX10_length_26 rfl ?_
      refine PW.getr (pc := 27) dX10_length_27 fl_X10_41 (by first | assumption | rfl) (by first | assumption | rfl) ?_
      refine PW.aload_n (pc := 30) dX10_length_30 rfl ?_
      refine PW.getr (pc := 31) dX10_length_31 fl_X10_19 (by first | assumption | rfl) (by first | assumption | rfl) ?_
      refine PW.getr (pc := 34) dX10_length_34 fl_X10_111 (by first | assumption | rfl) (by first | assumption | rfl) ?_
      refine PW.geti (pc := 37) dX10_length_37 fl_X10_137 (by decide) (by first | assumption | rfl) ?_
      rw [y (3 + 1) (by omega), hn]
      refine PW.iconst (pc := 40) dX10_length_40 ?_
      refine PW.isub (pc := 41) dX10_length_41 ?_
      refine PW.invV0x (pc := 42) dX10_length_42 mv_X10_228 (c_X2_stepAt _ aF (by omega)) (by first | assumption | rfl) rfl rfl (Nat.le_of_ble_eq_true rfl) ?_
      rw [F.2.2 _ (by omega) (by omega)]
      refine PW.iconst (pc := 45) dX10_length_45 ?_
      refine PW.iadd (pc := 46) dX10_length_46 ?_
      refine PW.aload_n (pc := 47) dX10_length_47 rfl ?_
      refine PW.getr (pc := 48) dX10_length_48 fl_X10_19 (by first | assumption | rfl) (by first | assumption | rfl) ?_
      refine PW.getr (pc := 51) dX10_length_51 fl_X10_161 (by first | assumption | rfl) (by first | assumption | rfl) ?_
      refine PW.geti (pc := 54) dX10_length_54 fl_X10_231 (by decide) (by first | assumption | rfl) ?_
      rw [y (3 + 3) (by omega), show I (3 + 3) 0 = vl (cNow s) from n3]
      refine PW.iadd (pc := 57) dX10_length_57 ?_
      exact PW.ireturn (pc := 58) dX10_length_58 rfl (CPo.of (fun q hq => y q (by omega)) (fun q hq => rfl) A.rel)
    · omega
set_option maxRecDepth 100000 in
set_option maxHeartbeats 1000000 in
theorem bsum_bits : ∀ (a b c e : Bool), ∀ r : Fin 4, pw_and (pw_shr (bsum (fun j => if j = 0 then a else if j = 1 then b else if j = 2 then c else e) 4) (r.val : Int)) 1 = if (if r.val = 0 then a else if r.val = 1 then b else if r.val = 2 then c else e) = true then 1 else 0 := by decide +kernel
set_option maxRecDepth 100000 in
set_option maxHeartbeats 1000000 in
theorem bsum_bit (f : Int → Bool) {r : Int} (r0 : 0 ≤ r) (r1 : r < 4) : pw_and (pw_shr (bsum f 4) r) 1 = if f r = true then 1 else 0 := by
  have e : bsum f 4 = bsum (fun j => if j = 0 then f 0 else if j = 1 then f 1 else if j = 2 then f 2 else f 3) 4 := by
    refine bsum_congr 4 (fun j j0 j1 => ?_)
    rcases (show j = 0 ∨ j = 1 ∨ j = 2 ∨ j = 3 by omega) with rfl | rfl | rfl | rfl <;> rfl
  rw [e]
  rcases (show r = 0 ∨ r = 1 ∨ r = 2 ∨ r = 3 by omega) with rfl | rfl | rfl | rfl
  · exact bsum_bits (f 0) (f 1) (f 2) (f 3) 0
  · exact bsum_bits (f 0) (f 1) (f 2) (f 3) 1
  · exact bsum_bits (f 0) (f 1) (f 2) (f 3) 2
  · exact bsum_bits (f 0) (f 1) (f 2) (f 3) 3
set_option maxRecDepth 100000 in
set_option maxHeartbeats 1000000 in
theorem dif_bit {P : Int → Int} {lag fw w : Int} {n : Nat} {r : Int} (r0 : 0 ≤ r) (r1 : r < 4) : pw_and (pw_shr (dif P lag fw w n) r) 1 = cb (plT P n r ≠ piT P lag fw w n r) := by
  unfold dif
  rw [bsum_bit _ r0 r1]
  unfold cb
  by_cases q : plT P n r ≠ piT P lag fw w n r
  · rw [if_pos (@decide_eq_true _ (Classical.propDecidable _) q), if_pos q]
  · rw [if_neg (fun o => q (@of_decide_eq_true _ (Classical.propDecidable _) o)), if_neg q]
set_option maxRecDepth 100000 in
set_option maxHeartbeats 1000000 in
theorem dif_none {P : Int → Int} {lag fw w : Int} {n : Nat} (h : dif P lag fw w n = 0) {r : Int} (r0 : 0 ≤ r) (r1 : r < 4) : plT P n r = piT P lag fw w n r := by
  refine Classical.byContradiction fun q => ?_
  exact bsum_pos (fun r => @decide (plT P n r ≠ piT P lag fw w n r) (Classical.propDecidable _)) 4 r r0 r1 (@decide_eq_true _ (Classical.propDecidable _) q) h
set_option maxRecDepth 100000 in
set_option maxHeartbeats 1000000 in
theorem c_X10_wrongBy (d : Nat) {I : PIm} {s : CS} {t sp : Nat} {ps : Int → Nat} {tb : Int → Tm} {lag fw w fs : Int} (h : CAct Γ s I R t sp ps tb (UR (UF (cF s)) (vP (cNow s)) lag fw w (vn (cNow s)))) (F : FlowR I (t + 1) 51 tb (vP (cNow s)) lag fw w (vn (cNow s))) : PC sc mX10_wrongBy (d + 6) 0 0 [.inr (some 0), .inl fs] Γ I R (fun v Γ' I' R' => v = some (.inl (wrg (cF s) fs (vP (cNow s)) lag fw w (vn (cNow s)))) ∧ Γ' = Γ ∧ Fr58 I I' R R') := by
  obtain ⟨⟨hCA, HP, hV⟩, T5, hz, hU⟩ := id h
  obtain ⟨⟨c0, c1, c2, c3, c4, c5, c6, c7, c8, c9, c10, c11⟩, ⟨aR, aS, aH, aF, aC, aB, a79⟩, ⟨aT, aSp, tsp⟩, g49, r490, r491, aI0, aI1, g50⟩ := id hCA
  have aC0 := aC.1
  have aT0 := aT.1
  have aF0 := aF.1
  obtain ⟨vT, vF, vB, ⟨vN, vNo⟩, ⟨vH, vHo⟩, vI, vS, vK⟩ := id hV
  have eU : UT tb (I (t + 1) 5) = _ := funext fun u => propext (hU u)
  have h4 := T5.1
  have DF := c_X2_differing (sc := sc) (Γ := Γ) (R := R) (I := I) (d + 5) aF (F.rg (N := 116) (by omega) (by omega))
  rw [F.dif] at DF
  have dr := dif_rg (vP (cNow s)) lag fw w (vn (cNow s))
  have F2 := F.2.1
  obtain ⟨zn, hzn⟩ : ∃ zn : Nat, I (t + 1) 5 = zn := ⟨(I (t + 1) 5).toNat, by omega⟩
  rw [hzn] at T5 hz eU F2
  have FI : FactsIs I t (cF s) tb zn := vF.1.congr (fun _ _ _ => rfl) (by omega) (fun _ _ _ => rfl)
  unfold wrg
  rw [← eU]
  have crf : ∀ u, Cl (UT tb zn) (EQ (cF s) fs) u u := (Cl.cc _ _).1
  have fr : ∀ I2 : PIm, (∀ q, ¬ (58 ≤ q ∧ q ≤ 61) → I2 q = I q) → Fr58 I I2 R R := fun I2 y => ⟨y, fun q g => rfl, fun z g => rfl⟩
  refine PC.ofPW (by decide) (Nat.le_of_ble_eq_true rfl) ?_
  by_cases D0 : dif (vP (cNow s)) lag fw w (vn (cNow s)) = 0
  · have e0 : (if cdec (ROut (UT tb zn) (cF s) fs (EQ (cF s) fs)) = true then (0 : Int) else bsum (fun r => cdec (¬ Cl (UT tb zn) (EQ (cF s) fs) (plT (vP (cNow s)) (vn (cNow s)) r) (piT (vP (cNow s)) lag fw w (vn (cNow s)) r))) 4) = 0 := by
      split
      · rfl
      · exact bsum_zero _ 4 (fun j j0 j1 => cdec_false.mpr (fun o => o (by rw [dif_none D0 j0 j1]; exact crf _)))
    rw [e0]
    refine PW.aload_n (pc := 0) dX10_wrongBy_0 rfl ?_
    refine PW.getr (pc := 1) dX10_wrongBy_1 fl_X10_41 (by first | assumption | rfl) (by first | assumption | rfl) ?_
    refine PW.invV0x (pc := 4) dX10_wrongBy_4 mv_X10_237 (DF) (by first | assumption | rfl) rfl rfl (Nat.le_of_ble_eq_true rfl) ?_
    refine PW.istore_n (pc := 7) dX10_wrongBy_7 (by decide) ?_
    refine PW.iload_n (pc := 8) dX10_wrongBy_8 rfl ?_
    refine PW.if_ne (pc := 9) (tgt := 14) dX10_wrongBy_9 (by decide) (by first | omega | exact rg_of _) (fun c_9 => ?_) (fun c_9 => ?_)
    · omega
    · refine PW.iconst (pc := 12) dX10_wrongBy_12 ?_
      exact PW.ireturn (pc := 13) dX10_wrongBy_13 rfl (⟨rfl, rfl, Fr58.rf I R⟩)
  · have loop : ∀ (N k : Nat) (I1 : PIm) (y : ∀ q, ¬ (58 ≤ q ∧ q ≤ 61) → I1 q = I q) (m1 : I1 58 3 = zn) (m2 : KC (I1 (58 + 1)) zn tb (EQ (cF s) fs)) (hno : ¬ ROut (UT tb zn) (cF s) fs (EQ (cF s) fs)), 4 - k = N → k ≤ 4 → PW sc mX10_wrongBy (d + 6) 0 0 (fun v Γ' I' R' => v = some (.inl (if cdec (ROut (UT tb zn) (cF s) fs (EQ (cF s) fs)) = true then (0 : Int) else bsum (fun r => cdec (¬ Cl (UT tb zn) (EQ (cF s) fs) (plT (vP (cNow s)) (vn (cNow s)) r) (piT (vP (cNow s)) lag fw w (vn (cNow s)) r))) 4)) ∧ Γ' = Γ ∧ Fr58 I I' R R') 48 [some (.inr (some 0)), some (.inl fs), some (.inl (dif (vP (cNow s)) lag fw w (vn (cNow s)))), some (.inl (bsum (fun r => cdec (¬ Cl (UT tb zn) (EQ (cF s) fs) (plT (vP (cNow s)) (vn (cNow s)) r) (piT (vP (cNow s)) lag fw w (vn (cNow s)) r))) k)), some (.inl (k : Int))] [] Γ I1 R := by
      intro N
      induction N using Nat.strongRecOn with
      | _ N ih =>
        intro k I1 y m1 m2 hno hN hk
        by_cases h4 : k < 4
        · have ob := or_bsum (fun r => cdec (¬ Cl (UT tb zn) (EQ (cF s) fs) (plT (vP (cNow s)) (vn (cNow s)) r) (piT (vP (cNow s)) lag fw w (vn (cNow s)) r))) (k := k) (by omega)
          obtain ⟨⟨x1, x2, x3⟩, x4, x5, x6⟩ := F2 (k : Int) (by omega) (by omega)
          have nx := ih (4 - (k + 1)) (by omega) (k + 1) I1 y m1 m2 hno rfl (by omega)
          by_cases qe : plT (vP (cNow s)) (vn (cNow s)) k = piT (vP (cNow s)) lag fw w (vn (cNow s)) k
          · rw [if_neg (show ¬ cdec (¬ Cl (UT tb zn) (EQ (cF s) fs) (plT (vP (cNow s)) (vn (cNow s)) k) (piT (vP (cNow s)) lag fw w (vn (cNow s)) k)) = true from fun o => (cdec_true.mp o) (by rw [qe]; exact crf _))] at ob
            refine PW.iload (pc := 48) dX10_wrongBy_48 rfl ?_
            refine PW.iconst (pc := 50) dX10_wrongBy_50 ?_
            refine PW.icmp_ge (pc := 51) (tgt := 107) dX10_wrongBy_51 (by decide) (by first | omega | exact rg_of _) (by first | omega | exact rg_of _) (fun c_51 => ?_) (fun c_51 => ?_)
            · omega
            · refine PW.iload_n (pc := 54) dX10_wrongBy_54 rfl ?_
              refine PW.iload (pc := 55) dX10_wrongBy_55 rfl ?_
              refine PW.ishr (pc := 57) dX10_wrongBy_57 ?_
              refine PW.iconst (pc := 58) dX10_wrongBy_58 ?_
              refine PW.iand (pc := 59) dX10_wrongBy_59 ?_
              rw [dif_bit (by omega) (by omega), cb_neg (fun o => o qe)]
              refine PW.iconst (pc := 60) dX10_wrongBy_60 ?_
              refine PW.icmp_ne (pc := 61) (tgt := 101) dX10_wrongBy_61 (by decide) (by first | omega | exact rg_of _) (by first | omega | exact rg_of _) (fun c_61 => ?_) (fun c_61 => ?_)
              · refine PW.iinc (pc := 101) dX10_wrongBy_101 rfl (by decide) ?_
                refine PW.goto (pc := 104) (tgt := 48) dX10_wrongBy_104 (by decide) ?_
                rw [ob]; exact nx
              · omega
          · have SM := c_X1_same (sc := sc) (Γ := Γ) (R := R) (d + 4) (I := I1) (a := I (51 + 1) k) (b := I (51 + 2) k) aC (by omega) (by rw [m1]; exact fun i i0 i1 => by have := m2.1 i i0 i1; omega) (by omega) (by omega)
            have L1 := c_X2_lastOf (sc := sc) (Γ := Γ) (R := R) (d + 5) (I := I1) (r := (k : Int)) (b := 0) aF (by omega) (Or.inl rfl)
            have L2 := c_X2_lastOf (sc := sc) (Γ := Γ) (R := R) (d + 5) (I := I1) (r := (k : Int)) (b := 1) aF (by omega) (Or.inr rfl)
            rw [if_pos rfl, y (51 + 1) (by omega)] at L1
            rw [if_neg (by decide), y (51 + 2) (by omega)] at L2
            have sme := m2.2 _ _ x1 x2 x4 x5
            rw [x3, x6] at sme
            refine PW.iload (pc := 48) dX10_wrongBy_48 rfl ?_
            refine PW.iconst (pc := 50) dX10_wrongBy_50 ?_
            refine PW.icmp_ge (pc := 51) (tgt := 107) dX10_wrongBy_51 (by decide) (by first | omega | exact rg_of _) (by first | omega | exact rg_of _) (fun c_51 => ?_) (fun c_51 => ?_)
            · omega
            · refine PW.iload_n (pc := 54) dX10_wrongBy_54 rfl ?_
              refine PW.iload (pc := 55) dX10_wrongBy_55 rfl ?_
              refine PW.ishr (pc := 57) dX10_wrongBy_57 ?_
              refine PW.iconst (pc := 58) dX10_wrongBy_58 ?_
              refine PW.iand (pc := 59) dX10_wrongBy_59 ?_
              rw [dif_bit (by omega) (by omega), cb_pos qe]
              refine PW.iconst (pc := 60) dX10_wrongBy_60 ?_
              refine PW.icmp_ne (pc := 61) (tgt := 101) dX10_wrongBy_61 (by decide) (by first | omega | exact rg_of _) (by first | omega | exact rg_of _) (fun c_61 => ?_) (fun c_61 => ?_)
              · omega
              · refine PW.aload_n (pc := 64) dX10_wrongBy_64 rfl ?_
                refine PW.getr (pc := 65) dX10_wrongBy_65 fl_X10_48 (by first | assumption | rfl) (by first | assumption | rfl) ?_
                refine PW.aload_n (pc := 68) dX10_wrongBy_68 rfl ?_
                refine PW.getr (pc := 69) dX10_wrongBy_69 fl_X10_41 (by first | assumption | rfl) (by first | assumption | rfl) ?_
                refine PW.iload (pc := 72) dX10_wrongBy_72 rfl ?_
                refine PW.iconst (pc := 74) dX10_wrongBy_74 ?_
                refine PW.invV0x (pc := 75) dX10_wrongBy_75 mv_X10_210 (L1) (by first | assumption | rfl) rfl rfl (Nat.le_of_ble_eq_true rfl) ?_
                refine PW.aload_n (pc := 78) dX10_wrongBy_78 rfl ?_
                refine PW.getr (pc := 79) dX10_wrongBy_79 fl_X10_41 (by first | assumption | rfl) (by first | assumption | rfl) ?_
                refine PW.iload (pc := 82) dX10_wrongBy_82 rfl ?_
                refine PW.iconst (pc := 84) dX10_wrongBy_84 ?_
                refine PW.invV0x (pc := 85) dX10_wrongBy_85 mv_X10_210 (L2) (by first | assumption | rfl) rfl rfl (Nat.le_of_ble_eq_true rfl) ?_
                refine PW.invV0x (pc := 88) dX10_wrongBy_88 mv_X10_194 (SM) (by first | assumption | rfl) rfl rfl (Nat.le_of_ble_eq_true rfl) ?_
                refine PW.if_ne (pc := 91) (tgt := 101) dX10_wrongBy_91 (by decide) (rg_bi _) (fun c_91 => ?_) (fun c_91 => ?_)
                · refine PW.iinc (pc := 101) dX10_wrongBy_101 rfl (by decide) ?_
                  refine PW.goto (pc := 104) (tgt := 48) dX10_wrongBy_104 (by decide) ?_
                  first
                  | exact nx
                  | (rw [if_neg (show ¬ cdec (¬ Cl (UT tb zn) (EQ (cF s) fs) (plT (vP (cNow s)) (vn (cNow s)) k) (piT (vP (cNow s)) lag fw w (vn (cNow s)) k)) = true from fun o => (cdec_true.mp o) (sme.mp (bi1 c_91)))] at ob; rw [ob]; exact nx)
                · rw [if_pos (cdec_true.mpr (fun o => bi0 c_91 (sme.mpr o)))] at ob
                  refine PW.iload_n (pc := 94) dX10_wrongBy_94 rfl ?_
                  refine PW.iconst (pc := 95) dX10_wrongBy_95 ?_
                  refine PW.iload (pc := 96) dX10_wrongBy_96 rfl ?_
                  refine PW.ishl (pc := 98) dX10_wrongBy_98 ?_
                  refine PW.ior (pc := 99) dX10_wrongBy_99 ?_
                  rw [ob]
                  refine PW.istore_n (pc := 100) dX10_wrongBy_100 (by decide) ?_
                  refine PW.iinc (pc := 101) dX10_wrongBy_101 rfl (by decide) ?_
                  refine PW.goto (pc := 104) (tgt := 48) dX10_wrongBy_104 (by decide) ?_
                  first
                  | exact nx
                  | (rw [if_neg (show ¬ cdec (¬ Cl (UT tb zn) (EQ (cF s) fs) (plT (vP (cNow s)) (vn (cNow s)) k) (piT (vP (cNow s)) lag fw w (vn (cNow s)) k)) = true from fun o => (cdec_true.mp o) (sme.mp (bi1 c_91)))] at ob; rw [ob]; exact nx)
        · obtain rfl : k = 4 := by omega
          refine PW.iload (pc := 48) dX10_wrongBy_48 rfl ?_
          refine PW.iconst (pc := 50) dX10_wrongBy_50 ?_
          refine PW.icmp_ge (pc := 51) (tgt := 107) dX10_wrongBy_51 (by decide) (by first | omega | exact rg_of _) (by first | omega | exact rg_of _) (fun c_51 => ?_) (fun c_51 => ?_)
          · refine PW.iload_n (pc := 107) dX10_wrongBy_107 rfl ?_
            exact PW.ireturn (pc := 108) dX10_wrongBy_108 rfl (⟨by rw [if_neg (fun o => hno (cdec_true.mp o))], rfl, fr I1 y⟩)
          · omega
    refine PW.aload_n (pc := 0) dX10_wrongBy_0 rfl ?_
    refine PW.getr (pc := 1) dX10_wrongBy_1 fl_X10_41 (by first | assumption | rfl) (by first | assumption | rfl) ?_
    refine PW.invV0x (pc := 4) dX10_wrongBy_4 mv_X10_237 (DF) (by first | assumption | rfl) rfl rfl (Nat.le_of_ble_eq_true rfl) ?_
    refine PW.istore_n (pc := 7) dX10_wrongBy_7 (by decide) ?_
    refine PW.iload_n (pc := 8) dX10_wrongBy_8 rfl ?_
    refine PW.if_ne (pc := 9) (tgt := 14) dX10_wrongBy_9 (by decide) (by first | omega | exact rg_of _) (fun c_9 => ?_) (fun c_9 => ?_)
    · refine PW.aload_n (pc := 14) dX10_wrongBy_14 rfl ?_
      refine PW.getr (pc := 15) dX10_wrongBy_15 fl_X10_48 (by first | assumption | rfl) (by first | assumption | rfl) ?_
      refine PW.aload_n (pc := 18) dX10_wrongBy_18 rfl ?_
      refine PW.getr (pc := 19) dX10_wrongBy_19 fl_X10_69 (by first | assumption | rfl) (by first | assumption | rfl) ?_
      refine PW.iload_n (pc := 22) dX10_wrongBy_22 rfl ?_
      refine PW.invV0 (pc := 23) dX10_wrongBy_23 mv_X10_190 (c_X1_closeBy _ aC aT hzn T5 (by omega) FI (by omega)) (by first | assumption | rfl) rfl rfl (Nat.le_of_ble_eq_true rfl) ?_
      (rintro v Γ' I1 R' ⟨rfl, rfl, rfl, y', m1, m2⟩)
      have y : ∀ q, ¬ (58 ≤ q ∧ q ≤ 61) → I1 q = I q := fun q g => by funext z; exact y' q z (by omega)
      have FI1 : FactsIs I1 t (cF s) tb zn := FI.congr (fun q g k => by rw [y q (by omega)]) (Int.le_refl _) (fun _ _ _ => rfl)
      refine PW.aload_n (pc := 26) dX10_wrongBy_26 rfl ?_
      refine PW.getr (pc := 27) dX10_wrongBy_27 fl_X10_48 (by first | assumption | rfl) (by first | assumption | rfl) ?_
      refine PW.aload_n (pc := 30) dX10_wrongBy_30 rfl ?_
      refine PW.getr (pc := 31) dX10_wrongBy_31 fl_X10_69 (by first | assumption | rfl) (by first | assumption | rfl) ?_
      refine PW.iload_n (pc := 34) dX10_wrongBy_34 rfl ?_
      refine PW.invV0x (pc := 35) dX10_wrongBy_35 mv_X10_198 (c_X1_rulesOut _ aC aT m1 (by omega) FI1 m2) (by first | assumption | rfl) rfl rfl (Nat.le_of_ble_eq_true rfl) ?_
      refine PW.if_eq (pc := 38) (tgt := 43) dX10_wrongBy_38 (by decide) (rg_cb _) (fun c_38 => ?_) (fun c_38 => ?_)
      · refine PW.iconst (pc := 43) dX10_wrongBy_43 ?_
        refine PW.istore_n (pc := 44) dX10_wrongBy_44 (by decide) ?_
        refine PW.iconst (pc := 45) dX10_wrongBy_45 ?_
        refine PW.istore (pc := 46) dX10_wrongBy_46 (by decide) ?_
        exact loop 4 0 I1 y m1 m2 (cb0 c_38) rfl (by omega)
      · refine PW.iconst (pc := 41) dX10_wrongBy_41 ?_
        exact PW.ireturn (pc := 42) dX10_wrongBy_42 rfl (⟨by rw [if_pos (cdec_true.mpr (cb1 c_38))], rfl, fr I1 y⟩)
    · omega
end WRONG
