section PUB2
variable {sc : PSc} {Γ : List PTy} {R : PRm}
set_option maxRecDepth 100000 in
set_option maxHeartbeats 1000000 in
theorem p_instruction (d : Nat) {I : PIm} {s : CS} {k w : Int} (h : CRel Γ s I R) (hk : Rg k) (hw : Rg w) : PC sc mX10_instruction (d + 2) 0 0 [.inr (some 0), .inl k, .inl w] Γ I R (CPo Γ I R (sp_instruction s k w) s) := by
  obtain ⟨t, sp, ps, tb, hCA, HP, hV⟩ := id h
  obtain ⟨⟨c0, c1, c2, c3, c4, c5, c6, c7, c8, c9, c10, c11⟩, ⟨aR, aS, aH, aF, aC, aB, a79⟩, ⟨aT, aSp, tsp⟩, g49, r490, r491, aI0, aI1, g50⟩ := id hCA
  obtain ⟨vT, vF, vB, ⟨vN, vNo⟩, ⟨vH, vHo⟩, vI, vS, vK⟩ := id hV
  have aR0 := aR.1
  obtain ⟨aS0, aS1, aS2, aS3, aS4⟩ := id aS
  have aS5 := aS4.1
  have aH0 := aH.1
  have aF0 := aF.1
  have aC0 := aC.1
  have aB0 := aB.1
  have aT0 := aT.1
  have aT1 := aT.2.1
  have aT9 := aT.2.2.2.2.2.2.2.2.2.1
  have aT90 := aT9.1
  obtain ⟨vNok, vNoF⟩ := id vNo
  obtain ⟨o1, o2, o3, o4, o5, o6⟩ := id vNok
  obtain ⟨n1, n2, n3, n4, n5, n6⟩ := id vN
  refine PC.ofPW (by decide) (Nat.le_of_ble_eq_true rfl) ?_
  have hn : I 4 1 = (vn (cNow s) : Int) := n1
  have hn6 : vn (cNow s) ≤ 6 := o1
  unfold sp_instruction
  have HAS := c_X5_has (sc := sc) (Γ := Γ) (R := R) (I := I) (d + 1) (h := 4) (k := k) aS5 hk (by omega)
  by_cases q : 0 ≤ k ∧ k < (vn (cNow s) : Int)
  · have oc : okc (vP (cNow s) k) := o2 k q.1 q.2
    have CA := c_X5_codeAt (sc := sc) (Γ := Γ) (R := R) (I := I) d (h := 4) (k := k) aS4 hk (by omega)
    have ec : (if 0 ≤ k ∧ k < I 4 1 ∧ k < 6 then I 5 k else -1) = vP (cNow s) k := by rw [if_pos (by omega)]; exact n2 k q.1 q.2
    rw [show (4 + 1 : Nat) = 5 by rfl, ec] at CA
    by_cases w0 : w < 0 ∨ 3 < w
    · rw [if_neg (by omega)]
      refine PW.aload_n (pc := 0) dX10_instruction_0 rfl ?_
      refine PW.getr (pc := 1) dX10_instruction_1 fl_X10_19 (by first | assumption | rfl) (by first | assumption | rfl) ?_
      refine PW.getr (pc := 4) dX10_instruction_4 fl_X10_111 (by first | assumption | rfl) (by first | assumption | rfl) ?_
      refine PW.iload_n (pc := 7) dX10_instruction_7 rfl ?_
      refine PW.invV0x (pc := 8) dX10_instruction_8 mv_X10_115 (HAS) (by first | assumption | rfl) rfl rfl (Nat.le_of_ble_eq_true rfl) ?_
      refine PW.if_ne (pc := 11) (tgt := 16) dX10_instruction_11 (by decide) (rg_bi _) (fun c_11 => ?_) (fun c_11 => ?_)
      · refine PW.aload_n (pc := 16) dX10_instruction_16 rfl ?_
        refine PW.getr (pc := 17) dX10_instruction_17 fl_X10_19 (by first | assumption | rfl) (by first | assumption | rfl) ?_
        refine PW.getr (pc := 20) dX10_instruction_20 fl_X10_111 (by first | assumption | rfl) (by first | assumption | rfl) ?_
        refine PW.iload_n (pc := 23) dX10_instruction_23 rfl ?_
        refine PW.invV0x (pc := 24) dX10_instruction_24 mv_X10_121 (CA) (by first | assumption | rfl) rfl rfl (Nat.le_of_ble_eq_true rfl) ?_
        refine PW.istore_n (pc := 27) dX10_instruction_27 (by decide) ?_
        refine PW.iload_n (pc := 28) dX10_instruction_28 rfl ?_
        refine PW.tableOut (pc := 29) (tgt := 80) dX10_instruction_29 hw w0 (by decide) ?_
        refine PW.iconst (pc := 80) dX10_instruction_80 ?_
        exact PW.ireturn (pc := 81) dX10_instruction_81 rfl (CPo.same h)
      · exact absurd c_11 (by rw [bi_pos (by omega)]; omega)
    · rw [if_pos (by omega)]
      unfold fldOf
      rcases (show w = 0 ∨ w = 1 ∨ w = 2 ∨ w = 3 by omega) with rfl | rfl | rfl | rfl
      · refine PW.aload_n (pc := 0) dX10_instruction_0 rfl ?_
        refine PW.getr (pc := 1) dX10_instruction_1 fl_X10_19 (by first | assumption | rfl) (by first | assumption | rfl) ?_
        refine PW.getr (pc := 4) dX10_instruction_4 fl_X10_111 (by first | assumption | rfl) (by first | assumption | rfl) ?_
        refine PW.iload_n (pc := 7) dX10_instruction_7 rfl ?_
        refine PW.invV0x (pc := 8) dX10_instruction_8 mv_X10_115 (HAS) (by first | assumption | rfl) rfl rfl (Nat.le_of_ble_eq_true rfl) ?_
        refine PW.if_ne (pc := 11) (tgt := 16) dX10_instruction_11 (by decide) (rg_bi _) (fun c_11 => ?_) (fun c_11 => ?_)
        · refine PW.aload_n (pc := 16) dX10_instruction_16 rfl ?_
          refine PW.getr (pc := 17) dX10_instruction_17 fl_X10_19 (by first | assumption | rfl) (by first | assumption | rfl) ?_
          refine PW.getr (pc := 20) dX10_instruction_20 fl_X10_111 (by first | assumption | rfl) (by first | assumption | rfl) ?_
          refine PW.iload_n (pc := 23) dX10_instruction_23 rfl ?_
          refine PW.invV0x (pc := 24) dX10_instruction_24 mv_X10_121 (CA) (by first | assumption | rfl) rfl rfl (Nat.le_of_ble_eq_true rfl) ?_
          refine PW.istore_n (pc := 27) dX10_instruction_27 (by decide) ?_
          refine PW.iload_n (pc := 28) dX10_instruction_28 rfl ?_
          refine PW.tableIn (pc := 29) (tgt := 60) dX10_instruction_29 hw (by decide) (by decide) rfl (by decide) ?_
          refine PW.iload_n (pc := 60) dX10_instruction_60 rfl ?_
          refine PW.invS0x (pc := 61) dX10_instruction_61 ms_X10_125 (c_kd _ oc) rfl rfl (Nat.le_of_ble_eq_true rfl) ?_
          exact PW.ireturn (pc := 64) dX10_instruction_64 rfl (CPo.same h)
        · exact absurd c_11 (by rw [bi_pos (by omega)]; omega)
      · refine PW.aload_n (pc := 0) dX10_instruction_0 rfl ?_
        refine PW.getr (pc := 1) dX10_instruction_1 fl_X10_19 (by first | assumption | rfl) (by first | assumption | rfl) ?_
        refine PW.getr (pc := 4) dX10_instruction_4 fl_X10_111 (by first | assumption | rfl) (by first | assumption | rfl) ?_
        refine PW.iload_n (pc := 7) dX10_instruction_7 rfl ?_
        refine PW.invV0x (pc := 8) dX10_instruction_8 mv_X10_115 (HAS) (by first | assumption | rfl) rfl rfl (Nat.le_of_ble_eq_true rfl) ?_
        refine PW.if_ne (pc := 11) (tgt := 16) dX10_instruction_11 (by decide) (rg_bi _) (fun c_11 => ?_) (fun c_11 => ?_)
        · refine PW.aload_n (pc := 16) dX10_instruction_16 rfl ?_
          refine PW.getr (pc := 17) dX10_instruction_17 fl_X10_19 (by first | assumption | rfl) (by first | assumption | rfl) ?_
          refine PW.getr (pc := 20) dX10_instruction_20 fl_X10_111 (by first | assumption | rfl) (by first | assumption | rfl) ?_
          refine PW.iload_n (pc := 23) dX10_instruction_23 rfl ?_
          refine PW.invV0x (pc := 24) dX10_instruction_24 mv_X10_121 (CA) (by first | assumption | rfl) rfl rfl (Nat.le_of_ble_eq_true rfl) ?_
          refine PW.istore_n (pc := 27) dX10_instruction_27 (by decide) ?_
          refine PW.iload_n (pc := 28) dX10_instruction_28 rfl ?_
          refine PW.tableIn (pc := 29) (tgt := 65) dX10_instruction_29 hw (by decide) (by decide) rfl (by decide) ?_
          refine PW.iload_n (pc := 65) dX10_instruction_65 rfl ?_
          refine PW.invS0x (pc := 66) dX10_instruction_66 ms_X10_128 (c_dd _ oc) rfl rfl (Nat.le_of_ble_eq_true rfl) ?_
          exact PW.ireturn (pc := 69) dX10_instruction_69 rfl (CPo.same h)
        · exact absurd c_11 (by rw [bi_pos (by omega)]; omega)
      · refine PW.aload_n (pc := 0) dX10_instruction_0 rfl ?_
        refine PW.getr (pc := 1) dX10_instruction_1 fl_X10_19 (by first | assumption | rfl) (by first | assumption | rfl) ?_
        refine PW.getr (pc := 4) dX10_instruction_4 fl_X10_111 (by first | assumption | rfl) (by first | assumption | rfl) ?_
        refine PW.iload_n (pc := 7) dX10_instruction_7 rfl ?_
        refine PW.invV0x (pc := 8) dX10_instruction_8 mv_X10_115 (HAS) (by first | assumption | rfl) rfl rfl (Nat.le_of_ble_eq_true rfl) ?_
        refine PW.if_ne (pc := 11) (tgt := 16) dX10_instruction_11 (by decide) (rg_bi _) (fun c_11 => ?_) (fun c_11 => ?_)
        · refine PW.aload_n (pc := 16) dX10_instruction_16 rfl ?_
          refine PW.getr (pc := 17) dX10_instruction_17 fl_X10_19 (by first | assumption | rfl) (by first | assumption | rfl) ?_
          refine PW.getr (pc := 20) dX10_instruction_20 fl_X10_111 (by first | assumption | rfl) (by first | assumption | rfl) ?_
          refine PW.iload_n (pc := 23) dX10_instruction_23 rfl ?_
          refine PW.invV0x (pc := 24) dX10_instruction_24 mv_X10_121 (CA) (by first | assumption | rfl) rfl rfl (Nat.le_of_ble_eq_true rfl) ?_
          refine PW.istore_n (pc := 27) dX10_instruction_27 (by decide) ?_
          refine PW.iload_n (pc := 28) dX10_instruction_28 rfl ?_
          refine PW.tableIn (pc := 29) (tgt := 70) dX10_instruction_29 hw (by decide) (by decide) rfl (by decide) ?_
          refine PW.iload_n (pc := 70) dX10_instruction_70 rfl ?_
          refine PW.invS0x (pc := 71) dX10_instruction_71 ms_X10_131 (c_ss _ oc) rfl rfl (Nat.le_of_ble_eq_true rfl) ?_
          exact PW.ireturn (pc := 74) dX10_instruction_74 rfl (CPo.same h)
        · exact absurd c_11 (by rw [bi_pos (by omega)]; omega)
      · refine PW.aload_n (pc := 0) dX10_instruction_0 rfl ?_
        refine PW.getr (pc := 1) dX10_instruction_1 fl_X10_19 (by first | assumption | rfl) (by first | assumption | rfl) ?_
        refine PW.getr (pc := 4) dX10_instruction_4 fl_X10_111 (by first | assumption | rfl) (by first | assumption | rfl) ?_
        refine PW.iload_n (pc := 7) dX10_instruction_7 rfl ?_
        refine PW.invV0x (pc := 8) dX10_instruction_8 mv_X10_115 (HAS) (by first | assumption | rfl) rfl rfl (Nat.le_of_ble_eq_true rfl) ?_
        refine PW.if_ne (pc := 11) (tgt := 16) dX10_instruction_11 (by decide) (rg_bi _) (fun c_11 => ?_) (fun c_11 => ?_)
        · refine PW.aload_n (pc := 16) dX10_instruction_16 rfl ?_
          refine PW.getr (pc := 17) dX10_instruction_17 fl_X10_19 (by first | assumption | rfl) (by first | assumption | rfl) ?_
          refine PW.getr (pc := 20) dX10_instruction_20 fl_X10_111 (by first | assumption | rfl) (by first | assumption | rfl) ?_
          refine PW.iload_n (pc := 23) dX10_instruction_23 rfl ?_
          refine PW.invV0x (pc := 24) dX10_instruction_24 mv_X10_121 (CA) (by first | assumption | rfl) rfl rfl (Nat.le_of_ble_eq_true rfl) ?_
          refine PW.istore_n (pc := 27) dX10_instruction_27 (by decide) ?_
          refine PW.iload_n (pc := 28) dX10_instruction_28 rfl ?_
          refine PW.tableIn (pc := 29) (tgt := 75) dX10_instruction_29 hw (by decide) (by decide) rfl (by decide) ?_
          refine PW.iload_n (pc := 75) dX10_instruction_75 rfl ?_
          refine PW.invS0x (pc := 76) dX10_instruction_76 ms_X10_134 (c_tt _ oc) rfl rfl (Nat.le_of_ble_eq_true rfl) ?_
          exact PW.ireturn (pc := 79) dX10_instruction_79 rfl (CPo.same h)
        · exact absurd c_11 (by rw [bi_pos (by omega)]; omega)
  · rw [if_neg (by omega)]
    refine PW.aload_n (pc := 0) dX10_instruction_0 rfl ?_
    refine PW.getr (pc := 1) dX10_instruction_1 fl_X10_19 (by first | assumption | rfl) (by first | assumption | rfl) ?_
    refine PW.getr (pc := 4) dX10_instruction_4 fl_X10_111 (by first | assumption | rfl) (by first | assumption | rfl) ?_
    refine PW.iload_n (pc := 7) dX10_instruction_7 rfl ?_
    refine PW.invV0x (pc := 8) dX10_instruction_8 mv_X10_115 (HAS) (by first | assumption | rfl) rfl rfl (Nat.le_of_ble_eq_true rfl) ?_
    refine PW.if_ne (pc := 11) (tgt := 16) dX10_instruction_11 (by decide) (rg_bi _) (fun c_11 => ?_) (fun c_11 => ?_)
    · exact absurd (bi1 c_11) (by omega)
    · refine PW.iconst (pc := 14) dX10_instruction_14 ?_
      exact PW.ireturn (pc := 15) dX10_instruction_15 rfl (CPo.same h)
set_option maxRecDepth 100000 in
set_option maxHeartbeats 1000000 in
theorem p_undo (d : Nat) {I : PIm} {s : CS} (h : CRel Γ s I R) : PC sc mX10_undo (d + 4) 0 0 [.inr (some 0)] Γ I R (CPo Γ I R (sp_undo s).1 (sp_undo s).2) := by
  obtain ⟨t, sp, ps, tb, hCA, HP, hV⟩ := id h
  obtain ⟨⟨c0, c1, c2, c3, c4, c5, c6, c7, c8, c9, c10, c11⟩, ⟨aR, aS, aH, aF, aC, aB, a79⟩, ⟨aT, aSp, tsp⟩, g49, r490, r491, aI0, aI1, g50⟩ := id hCA
  obtain ⟨vT, vF, vB, ⟨vN, vNo⟩, ⟨vH, vHo⟩, vI, vS, vK⟩ := id hV
  have aR0 := aR.1
  obtain ⟨aS0, aS1, aS2, aS3, aS4⟩ := id aS
  have aS5 := aS4.1
  have aH0 := aH.1
  have aF0 := aF.1
  have aC0 := aC.1
  have aB0 := aB.1
  have aT0 := aT.1
  have aT1 := aT.2.1
  have aT9 := aT.2.2.2.2.2.2.2.2.2.1
  have aT90 := aT9.1
  obtain ⟨vNok, vNoF⟩ := id vNo
  obtain ⟨o1, o2, o3, o4, o5, o6⟩ := id vNok
  obtain ⟨n1, n2, n3, n4, n5, n6⟩ := id vN
  refine PC.ofPW (by decide) (Nat.le_of_ble_eq_true rfl) ?_
  obtain ⟨x1, x2, x3⟩ := id vH
  unfold sp_undo
  by_cases q : cNh s = 0
  · rw [if_pos q]
    refine PW.aload_n (pc := 0) dX10_undo_0 rfl ?_
    refine PW.getr (pc := 1) dX10_undo_1 fl_X10_26 (by first | assumption | rfl) (by first | assumption | rfl) ?_
    refine PW.geti (pc := 4) dX10_undo_4 fl_X10_171 (by decide) (by first | assumption | rfl) ?_
    refine PW.if_gt (pc := 7) (tgt := 13) dX10_undo_7 (by decide) (by first | omega | exact rg_of _) (fun c_7 => ?_) (fun c_7 => ?_)
    · omega
    · refine PW.bipush (pc := 10) dX10_undo_10 (by decide) ?_
      exact PW.ireturn (pc := 12) dX10_undo_12 rfl (CPo.same h)
  · rw [if_neg q]
    refine PW.aload_n (pc := 0) dX10_undo_0 rfl ?_
    refine PW.getr (pc := 1) dX10_undo_1 fl_X10_26 (by first | assumption | rfl) (by first | assumption | rfl) ?_
    refine PW.geti (pc := 4) dX10_undo_4 fl_X10_171 (by decide) (by first | assumption | rfl) ?_
    refine PW.if_gt (pc := 7) (tgt := 13) dX10_undo_7 (by decide) (by first | omega | exact rg_of _) (fun c_7 => ?_) (fun c_7 => ?_)
    · refine PW.aload_n (pc := 13) dX10_undo_13 rfl ?_
      refine PW.getr (pc := 14) dX10_undo_14 fl_X10_26 (by first | assumption | rfl) (by first | assumption | rfl) ?_
      refine PW.aload_n (pc := 17) dX10_undo_17 rfl ?_
      refine PW.getr (pc := 18) dX10_undo_18 fl_X10_19 (by first | assumption | rfl) (by first | assumption | rfl) ?_
      refine PW.invV0 (pc := 21) dX10_undo_21 mv_X10_172 (c_X3_restoreLatest _ aH HP vH (by omega) aS (by omega)) (by first | assumption | rfl) rfl rfl (Nat.le_of_ble_eq_true rfl) ?_
      (rintro vv Γ' I' R' ⟨rfl, rfl, rfl, y', m1, m2⟩; have y : ∀ q, ¬ (q = 7 ∨ (3 ≤ q ∧ q ≤ 6)) → I' q = I q := fun q g => by funext z; exact y' q z g)
      refine PW.aload_n (pc := 24) dX10_undo_24 rfl ?_
      refine PW.getr (pc := 25) dX10_undo_25 fl_X10_26 (by first | assumption | rfl) (by first | assumption | rfl) ?_
      refine PW.geti (pc := 28) dX10_undo_28 fl_X10_171 (by decide) (by first | assumption | rfl) ?_
      rw [m1.1]
      exact PW.ireturn (pc := 31) dX10_undo_31 rfl (⟨rfl, rfl, fun q hq => y q (by omega), fun _ _ => rfl, t, sp, ps, tb, hCA, HP, (vT.congr rfl (fun q g => y q (by omega))), (vF.congr rfl (fun q g => y q (by omega)) (by rw [y (t + 1) (by omega)])), (vB.of (fun q g1 g2 => y q (by omega))), ⟨m2, vHo _ (by omega) (by omega)⟩, ⟨m1, fun i i0 i1 => vHo i i0 (by have : i < ((cNh s - 1 : Nat) : Int) := i1; omega)⟩, (vI.congr rfl rfl (fun q g => y q (by omega))), (by unfold CSee; rw [y 0 (by omega)]; exact vS), (vK.congr (fun q g1 g2 => y q (by omega)))⟩)
    · omega
set_option maxRecDepth 100000 in
set_option maxHeartbeats 1000000 in
theorem p_keep (d : Nat) {I : PIm} {s : CS} {i : Int} (h : CRel Γ s I R) (hi : Rg i) : PC sc mX10_keep (d + 3) 0 0 [.inr (some 0), .inl i] Γ I R (CPo Γ I R (sp_keep s i).1 (sp_keep s i).2) := by
  obtain ⟨t, sp, ps, tb, hCA, HP, hV⟩ := id h
  obtain ⟨⟨c0, c1, c2, c3, c4, c5, c6, c7, c8, c9, c10, c11⟩, ⟨aR, aS, aH, aF, aC, aB, a79⟩, ⟨aT, aSp, tsp⟩, g49, r490, r491, aI0, aI1, g50⟩ := id hCA
  obtain ⟨vT, vF, vB, ⟨vN, vNo⟩, ⟨vH, vHo⟩, vI, vS, vK⟩ := id hV
  have aR0 := aR.1
  obtain ⟨aS0, aS1, aS2, aS3, aS4⟩ := id aS
  have aS5 := aS4.1
  have aH0 := aH.1
  have aF0 := aF.1
  have aC0 := aC.1
  have aB0 := aB.1
  have aT0 := aT.1
  have aT1 := aT.2.1
  have aT9 := aT.2.2.2.2.2.2.2.2.2.1
  have aT90 := aT9.1
  obtain ⟨vNok, vNoF⟩ := id vNo
  obtain ⟨o1, o2, o3, o4, o5, o6⟩ := id vNok
  obtain ⟨n1, n2, n3, n4, n5, n6⟩ := id vN
  refine PC.ofPW (by decide) (Nat.le_of_ble_eq_true rfl) ?_
  unfold sp_keep
  obtain ⟨⟨i1, i2⟩, i3, i4⟩ := id vI
  have aI00 := aI0.1
  have aI10 := aI1.1
  have en : I 4 1 = (vn (cNow s) : Int) := n1
  by_cases q : 0 ≤ i ∧ i ≤ 1
  · rw [if_neg (by omega)]
    rcases (show i = 0 ∨ i = 1 by omega) with rfl | rfl
    · refine PW.iload_n (pc := 0) dX10_keep_0 rfl ?_
      refine PW.if_lt (pc := 1) (tgt := 9) dX10_keep_1 (by decide) (by first | omega | exact rg_of _) (fun c_1 => ?_) (fun c_1 => ?_)
      · omega
      · refine PW.iload_n (pc := 4) dX10_keep_4 rfl ?_
        refine PW.iconst (pc := 5) dX10_keep_5 ?_
        refine PW.icmp_lt (pc := 6) (tgt := 11) dX10_keep_6 (by decide) (by first | omega | exact rg_of _) (by first | omega | exact rg_of _) (fun c_6 => ?_) (fun c_6 => ?_)
        · refine PW.aload_n (pc := 11) dX10_keep_11 rfl ?_
          refine PW.getr (pc := 12) dX10_keep_12 fl_X10_30 (by first | assumption | rfl) (by first | assumption | rfl) ?_
          refine PW.iload_n (pc := 15) dX10_keep_15 rfl ?_
          refine PW.aald (pc := 16) dX10_keep_16 (by first | assumption | rfl) (by omega) (by omega) (by omega) (by first | assumption | rfl) ?_
          refine PW.aload_n (pc := 17) dX10_keep_17 rfl ?_
          refine PW.getr (pc := 18) dX10_keep_18 fl_X10_19 (by first | assumption | rfl) (by first | assumption | rfl) ?_
          refine PW.invV0 (pc := 21) dX10_keep_21 mv_X10_266 (c_X7_copyFrom _ aI0 aS (by omega)) (by first | assumption | rfl) rfl rfl (Nat.le_of_ble_eq_true rfl) ?_
          (rintro vv Γ' I' R' ⟨rfl, rfl, rfl, y', m1⟩; have m2 := m1 _ vNok vN; have y : ∀ q, ¬ (q = 50 ∨ (104 ≤ q ∧ q ≤ 107)) → pw_up I' 50 0 1 q = I q := fun q g => by rw [pw_up_ne q (by omega)]; funext z; exact y' q z (by omega))
          refine PW.aload_n (pc := 24) dX10_keep_24 rfl ?_
          refine PW.getr (pc := 25) dX10_keep_25 fl_X10_34 (by first | assumption | rfl) (by first | assumption | rfl) ?_
          refine PW.iload_n (pc := 28) dX10_keep_28 rfl ?_
          refine PW.iconst (pc := 29) dX10_keep_29 ?_
          refine PW.zast (pc := 30) dX10_keep_30 (by first | assumption | rfl) (by omega) (by omega) (by omega) (by first | exact Or.inl rfl | exact Or.inr rfl | omega) ?_
          refine PW.aload_n (pc := 31) dX10_keep_31 rfl ?_
          refine PW.getr (pc := 32) dX10_keep_32 fl_X10_19 (by first | assumption | rfl) (by first | assumption | rfl) ?_
          refine PW.getr (pc := 35) dX10_keep_35 fl_X10_111 (by first | assumption | rfl) (by first | assumption | rfl) ?_
          refine PW.geti (pc := 38) dX10_keep_38 fl_X10_137 (by decide) (by first | assumption | rfl) ?_
          rw [y 4 (by omega), en]
          exact PW.ireturn (pc := 41) dX10_keep_41 rfl (⟨rfl, rfl, fun q hq => y q (by omega), fun _ _ => rfl, t, sp, ps, tb, hCA, HP, (vT.congr rfl (fun q g => y q (by omega))), (vF.congr rfl (fun q g => y q (by omega)) (by rw [y (t + 1) (by omega)])), (vB.of (fun q g1 g2 => y q (by omega))), (⟨vN.cg (fun q g1 g2 => y q (by omega)), vNo⟩), (⟨vH.cg HP (fun q g1 g2 => y q (by omega)), vHo⟩), ⟨⟨pw_up_self _ _ _ _, Or.inr ⟨rfl, m2.cg (fun q g1 g2 => pw_up_ne q (by omega)), vNo⟩⟩, by rw [pw_up_other (by omega), y' 50 1 (by omega)]; exact i3, i4.imp id (fun w => ⟨w.1, w.2.1.cg (fun q g1 g2 => y q (by omega)), w.2.2⟩)⟩, (by unfold CSee; rw [y 0 (by omega)]; exact vS), (vK.congr (fun q g1 g2 => y q (by omega)))⟩)
        · omega
    · refine PW.iload_n (pc := 0) dX10_keep_0 rfl ?_
      refine PW.if_lt (pc := 1) (tgt := 9) dX10_keep_1 (by decide) (by first | omega | exact rg_of _) (fun c_1 => ?_) (fun c_1 => ?_)
      · omega
      · refine PW.iload_n (pc := 4) dX10_keep_4 rfl ?_
        refine PW.iconst (pc := 5) dX10_keep_5 ?_
        refine PW.icmp_lt (pc := 6) (tgt := 11) dX10_keep_6 (by decide) (by first | omega | exact rg_of _) (by first | omega | exact rg_of _) (fun c_6 => ?_) (fun c_6 => ?_)
        · refine PW.aload_n (pc := 11) dX10_keep_11 rfl ?_
          refine PW.getr (pc := 12) dX10_keep_12 fl_X10_30 (by first | assumption | rfl) (by first | assumption | rfl) ?_
          refine PW.iload_n (pc := 15) dX10_keep_15 rfl ?_
          refine PW.aald (pc := 16) dX10_keep_16 (by first | assumption | rfl) (by omega) (by omega) (by omega) (by first | assumption | rfl) ?_
          refine PW.aload_n (pc := 17) dX10_keep_17 rfl ?_
          refine PW.getr (pc := 18) dX10_keep_18 fl_X10_19 (by first | assumption | rfl) (by first | assumption | rfl) ?_
          refine PW.invV0 (pc := 21) dX10_keep_21 mv_X10_266 (c_X7_copyFrom _ aI1 aS (by omega)) (by first | assumption | rfl) rfl rfl (Nat.le_of_ble_eq_true rfl) ?_
          (rintro vv Γ' I' R' ⟨rfl, rfl, rfl, y', m1⟩; have m2 := m1 _ vNok vN; have y : ∀ q, ¬ (q = 50 ∨ (108 ≤ q ∧ q ≤ 111)) → pw_up I' 50 1 1 q = I q := fun q g => by rw [pw_up_ne q (by omega)]; funext z; exact y' q z (by omega))
          refine PW.aload_n (pc := 24) dX10_keep_24 rfl ?_
          refine PW.getr (pc := 25) dX10_keep_25 fl_X10_34 (by first | assumption | rfl) (by first | assumption | rfl) ?_
          refine PW.iload_n (pc := 28) dX10_keep_28 rfl ?_
          refine PW.iconst (pc := 29) dX10_keep_29 ?_
          refine PW.zast (pc := 30) dX10_keep_30 (by first | assumption | rfl) (by omega) (by omega) (by omega) (by first | exact Or.inl rfl | exact Or.inr rfl | omega) ?_
          refine PW.aload_n (pc := 31) dX10_keep_31 rfl ?_
          refine PW.getr (pc := 32) dX10_keep_32 fl_X10_19 (by first | assumption | rfl) (by first | assumption | rfl) ?_
          refine PW.getr (pc := 35) dX10_keep_35 fl_X10_111 (by first | assumption | rfl) (by first | assumption | rfl) ?_
          refine PW.geti (pc := 38) dX10_keep_38 fl_X10_137 (by decide) (by first | assumption | rfl) ?_
          rw [y 4 (by omega), en]
          exact PW.ireturn (pc := 41) dX10_keep_41 rfl (⟨rfl, rfl, fun q hq => y q (by omega), fun _ _ => rfl, t, sp, ps, tb, hCA, HP, (vT.congr rfl (fun q g => y q (by omega))), (vF.congr rfl (fun q g => y q (by omega)) (by rw [y (t + 1) (by omega)])), (vB.of (fun q g1 g2 => y q (by omega))), (⟨vN.cg (fun q g1 g2 => y q (by omega)), vNo⟩), (⟨vH.cg HP (fun q g1 g2 => y q (by omega)), vHo⟩), ⟨⟨by rw [pw_up_other (by omega), y' 50 0 (by omega)]; exact i1, i2.imp id (fun w => ⟨w.1, w.2.1.cg (fun q g1 g2 => y q (by omega)), w.2.2⟩)⟩, pw_up_self _ _ _ _, Or.inr ⟨rfl, m2.cg (fun q g1 g2 => pw_up_ne q (by omega)), vNo⟩⟩, (by unfold CSee; rw [y 0 (by omega)]; exact vS), (vK.congr (fun q g1 g2 => y q (by omega)))⟩)
        · omega
  · rw [if_pos (by omega)]
    refine PW.iload_n (pc := 0) dX10_keep_0 rfl ?_
    refine PW.if_lt (pc := 1) (tgt := 9) dX10_keep_1 (by decide) (by first | omega | exact rg_of _) (fun c_1 => ?_) (fun c_1 => ?_)
    · refine PW.iconst (pc := 9) dX10_keep_9 ?_
      exact PW.ireturn (pc := 10) dX10_keep_10 rfl (CPo.same h)
    · refine PW.iload_n (pc := 4) dX10_keep_4 rfl ?_
      refine PW.iconst (pc := 5) dX10_keep_5 ?_
      refine PW.icmp_lt (pc := 6) (tgt := 11) dX10_keep_6 (by decide) (by first | omega | exact rg_of _) (by first | omega | exact rg_of _) (fun c_6 => ?_) (fun c_6 => ?_)
      · omega
      · refine PW.iconst (pc := 9) dX10_keep_9 ?_
        exact PW.ireturn (pc := 10) dX10_keep_10 rfl (CPo.same h)
set_option maxRecDepth 100000 in
set_option maxHeartbeats 1000000 in
theorem p_back (d : Nat) {I : PIm} {s : CS} {i : Int} (h : CRel Γ s I R) (hi : Rg i) : PC sc mX10_back (d + 3) 0 0 [.inr (some 0), .inl i] Γ I R (CPo Γ I R (sp_back s i).1 (sp_back s i).2) := by
  obtain ⟨t, sp, ps, tb, hCA, HP, hV⟩ := id h
  obtain ⟨⟨c0, c1, c2, c3, c4, c5, c6, c7, c8, c9, c10, c11⟩, ⟨aR, aS, aH, aF, aC, aB, a79⟩, ⟨aT, aSp, tsp⟩, g49, r490, r491, aI0, aI1, g50⟩ := id hCA
  obtain ⟨vT, vF, vB, ⟨vN, vNo⟩, ⟨vH, vHo⟩, vI, vS, vK⟩ := id hV
  have aR0 := aR.1
  obtain ⟨aS0, aS1, aS2, aS3, aS4⟩ := id aS
  have aS5 := aS4.1
  have aH0 := aH.1
  have aF0 := aF.1
  have aC0 := aC.1
  have aB0 := aB.1
  have aT0 := aT.1
  have aT1 := aT.2.1
  have aT9 := aT.2.2.2.2.2.2.2.2.2.1
  have aT90 := aT9.1
  obtain ⟨vNok, vNoF⟩ := id vNo
  obtain ⟨o1, o2, o3, o4, o5, o6⟩ := id vNok
  obtain ⟨n1, n2, n3, n4, n5, n6⟩ := id vN
  refine PC.ofPW (by decide) (Nat.le_of_ble_eq_true rfl) ?_
  unfold sp_back
  obtain ⟨⟨i1, i2⟩, i3, i4⟩ := id vI
  have aI00 := aI0.1
  have aI10 := aI1.1
  by_cases q : 0 ≤ i ∧ i ≤ 1
  · rw [if_neg (by omega)]
    rcases (show i = 0 ∨ i = 1 by omega) with rfl | rfl
    · rcases i2 with e0 | ⟨e1, e2, e3⟩
      · rw [if_pos e0]
        refine PW.iload_n (pc := 0) dX10_back_0 rfl ?_
        refine PW.if_lt (pc := 1) (tgt := 9) dX10_back_1 (by decide) (by first | omega | exact rg_of _) (fun c_1 => ?_) (fun c_1 => ?_)
        · omega
        · refine PW.iload_n (pc := 4) dX10_back_4 rfl ?_
          refine PW.iconst (pc := 5) dX10_back_5 ?_
          refine PW.icmp_lt (pc := 6) (tgt := 11) dX10_back_6 (by decide) (by first | omega | exact rg_of _) (by first | omega | exact rg_of _) (fun c_6 => ?_) (fun c_6 => ?_)
          · refine PW.aload_n (pc := 11) dX10_back_11 rfl ?_
            refine PW.getr (pc := 12) dX10_back_12 fl_X10_34 (by first | assumption | rfl) (by first | assumption | rfl) ?_
            refine PW.iload_n (pc := 15) dX10_back_15 rfl ?_
            refine PW.zald (pc := 16) dX10_back_16 (by first | assumption | rfl) (by omega) (by omega) (by omega) ?_
            rw [i1, e0]
            refine PW.if_ne (pc := 17) (tgt := 23) dX10_back_17 (by decide) (by first | omega | exact rg_of _) (fun c_17 => ?_) (fun c_17 => ?_)
            · omega
            · refine PW.bipush (pc := 20) dX10_back_20 (by decide) ?_
              exact PW.ireturn (pc := 22) dX10_back_22 rfl (CPo.same h)
          · omega
      · rw [if_neg (by omega)]
        refine PW.iload_n (pc := 0) dX10_back_0 rfl ?_
        refine PW.if_lt (pc := 1) (tgt := 9) dX10_back_1 (by decide) (by first | omega | exact rg_of _) (fun c_1 => ?_) (fun c_1 => ?_)
        · omega
        · refine PW.iload_n (pc := 4) dX10_back_4 rfl ?_
          refine PW.iconst (pc := 5) dX10_back_5 ?_
          refine PW.icmp_lt (pc := 6) (tgt := 11) dX10_back_6 (by decide) (by first | omega | exact rg_of _) (by first | omega | exact rg_of _) (fun c_6 => ?_) (fun c_6 => ?_)
          · refine PW.aload_n (pc := 11) dX10_back_11 rfl ?_
            refine PW.getr (pc := 12) dX10_back_12 fl_X10_34 (by first | assumption | rfl) (by first | assumption | rfl) ?_
            refine PW.iload_n (pc := 15) dX10_back_15 rfl ?_
            refine PW.zald (pc := 16) dX10_back_16 (by first | assumption | rfl) (by omega) (by omega) (by omega) ?_
            rw [i1, e1]
            refine PW.if_ne (pc := 17) (tgt := 23) dX10_back_17 (by decide) (by first | omega | exact rg_of _) (fun c_17 => ?_) (fun c_17 => ?_)
            · refine PW.aload_n (pc := 23) dX10_back_23 rfl ?_
              refine PW.getr (pc := 24) dX10_back_24 fl_X10_19 (by first | assumption | rfl) (by first | assumption | rfl) ?_
              refine PW.aload_n (pc := 27) dX10_back_27 rfl ?_
              refine PW.getr (pc := 28) dX10_back_28 fl_X10_30 (by first | assumption | rfl) (by first | assumption | rfl) ?_
              refine PW.iload_n (pc := 31) dX10_back_31 rfl ?_
              refine PW.aald (pc := 32) dX10_back_32 (by first | assumption | rfl) (by omega) (by omega) (by omega) (by first | assumption | rfl) ?_
              refine PW.invV0 (pc := 33) dX10_back_33 mv_X10_266 (c_X7_copyFrom _ aS aI0 (by omega)) (by first | assumption | rfl) rfl rfl (Nat.le_of_ble_eq_true rfl) ?_
              (rintro vv Γ' I' R' ⟨rfl, rfl, rfl, y', m1⟩; have m2 := m1 _ e3.1 e2; have y : ∀ q, ¬ (q = 7 ∨ (3 ≤ q ∧ q ≤ 6)) → pw_up I' 7 1 0 q = I q := fun q g => by rw [pw_up_ne q (by omega)]; funext z; exact y' q z (by omega))
              refine PW.aload_n (pc := 36) dX10_back_36 rfl ?_
              refine PW.getr (pc := 37) dX10_back_37 fl_X10_26 (by first | assumption | rfl) (by first | assumption | rfl) ?_
              refine PW.invV0x (pc := 40) dX10_back_40 mv_X10_83 (c_X3_forgetAll _ aH) (by first | assumption | rfl) rfl rfl (Nat.le_of_ble_eq_true rfl) ?_
              refine PW.aload_n (pc := 43) dX10_back_43 rfl ?_
              refine PW.getr (pc := 44) dX10_back_44 fl_X10_19 (by first | assumption | rfl) (by first | assumption | rfl) ?_
              refine PW.getr (pc := 47) dX10_back_47 fl_X10_111 (by first | assumption | rfl) (by first | assumption | rfl) ?_
              refine PW.geti (pc := 50) dX10_back_50 fl_X10_137 (by decide) (by first | assumption | rfl) ?_
              rw [pw_up_other (by omega), show I' 4 1 = (vn (cIm s 0).2 : Int) from m2.1]
              exact PW.ireturn (pc := 53) dX10_back_53 rfl (⟨rfl, rfl, fun q hq => y q (by omega), fun _ _ => rfl, t, sp, ps, tb, hCA, HP, (vT.congr rfl (fun q g => y q (by omega))), (vF.congr rfl (fun q g => y q (by omega)) (by rw [y (t + 1) (by omega)])), (vB.of (fun q g1 g2 => y q (by omega))), ⟨m2.cg (fun q g1 g2 => pw_up_ne q (by omega)), e3⟩, ⟨⟨pw_up_self _ _ _ _, Nat.zero_le _, fun i a b => absurd b (by show ¬ i < ((0 : Nat) : Int); omega)⟩, fun i a b => absurd b (by show ¬ i < ((0 : Nat) : Int); omega)⟩, (vI.congr rfl rfl (fun q g => y q (by omega))), (by unfold CSee; rw [y 0 (by omega)]; exact vS), (vK.congr (fun q g1 g2 => y q (by omega)))⟩)
            · omega
          · omega
    · rcases i4 with e0 | ⟨e1, e2, e3⟩
      · rw [if_pos e0]
        refine PW.iload_n (pc := 0) dX10_back_0 rfl ?_
        refine PW.if_lt (pc := 1) (tgt := 9) dX10_back_1 (by decide) (by first | omega | exact rg_of _) (fun c_1 => ?_) (fun c_1 => ?_)
        · omega
        · refine PW.iload_n (pc := 4) dX10_back_4 rfl ?_
          refine PW.iconst (pc := 5) dX10_back_5 ?_
          refine PW.icmp_lt (pc := 6) (tgt := 11) dX10_back_6 (by decide) (by first | omega | exact rg_of _) (by first | omega | exact rg_of _) (fun c_6 => ?_) (fun c_6 => ?_)
          · refine PW.aload_n (pc := 11) dX10_back_11 rfl ?_
            refine PW.getr (pc := 12) dX10_back_12 fl_X10_34 (by first | assumption | rfl) (by first | assumption | rfl) ?_
            refine PW.iload_n (pc := 15) dX10_back_15 rfl ?_
            refine PW.zald (pc := 16) dX10_back_16 (by first | assumption | rfl) (by omega) (by omega) (by omega) ?_
            rw [i3, e0]
            refine PW.if_ne (pc := 17) (tgt := 23) dX10_back_17 (by decide) (by first | omega | exact rg_of _) (fun c_17 => ?_) (fun c_17 => ?_)
            · omega
            · refine PW.bipush (pc := 20) dX10_back_20 (by decide) ?_
              exact PW.ireturn (pc := 22) dX10_back_22 rfl (CPo.same h)
          · omega
      · rw [if_neg (by omega)]
        refine PW.iload_n (pc := 0) dX10_back_0 rfl ?_
        refine PW.if_lt (pc := 1) (tgt := 9) dX10_back_1 (by decide) (by first | omega | exact rg_of _) (fun c_1 => ?_) (fun c_1 => ?_)
        · omega
        · refine PW.iload_n (pc := 4) dX10_back_4 rfl ?_
          refine PW.iconst (pc := 5) dX10_back_5 ?_
          refine PW.icmp_lt (pc := 6) (tgt := 11) dX10_back_6 (by decide) (by first | omega | exact rg_of _) (by first | omega | exact rg_of _) (fun c_6 => ?_) (fun c_6 => ?_)
          · refine PW.aload_n (pc := 11) dX10_back_11 rfl ?_
            refine PW.getr (pc := 12) dX10_back_12 fl_X10_34 (by first | assumption | rfl) (by first | assumption | rfl) ?_
            refine PW.iload_n (pc := 15) dX10_back_15 rfl ?_
            refine PW.zald (pc := 16) dX10_back_16 (by first | assumption | rfl) (by omega) (by omega) (by omega) ?_
            rw [i3, e1]
            refine PW.if_ne (pc := 17) (tgt := 23) dX10_back_17 (by decide) (by first | omega | exact rg_of _) (fun c_17 => ?_) (fun c_17 => ?_)
            · refine PW.aload_n (pc := 23) dX10_back_23 rfl ?_
              refine PW.getr (pc := 24) dX10_back_24 fl_X10_19 (by first | assumption | rfl) (by first | assumption | rfl) ?_
              refine PW.aload_n (pc := 27) dX10_back_27 rfl ?_
              refine PW.getr (pc := 28) dX10_back_28 fl_X10_30 (by first | assumption | rfl) (by first | assumption | rfl) ?_
              refine PW.iload_n (pc := 31) dX10_back_31 rfl ?_
              refine PW.aald (pc := 32) dX10_back_32 (by first | assumption | rfl) (by omega) (by omega) (by omega) (by first | assumption | rfl) ?_
              refine PW.invV0 (pc := 33) dX10_back_33 mv_X10_266 (c_X7_copyFrom _ aS aI1 (by omega)) (by first | assumption | rfl) rfl rfl (Nat.le_of_ble_eq_true rfl) ?_
              (rintro vv Γ' I' R' ⟨rfl, rfl, rfl, y', m1⟩; have m2 := m1 _ e3.1 e2; have y : ∀ q, ¬ (q = 7 ∨ (3 ≤ q ∧ q ≤ 6)) → pw_up I' 7 1 0 q = I q := fun q g => by rw [pw_up_ne q (by omega)]; funext z; exact y' q z (by omega))
              refine PW.aload_n (pc := 36) dX10_back_36 rfl ?_
              refine PW.getr (pc := 37) dX10_back_37 fl_X10_26 (by first | assumption | rfl) (by first | assumption | rfl) ?_
              refine PW.invV0x (pc := 40) dX10_back_40 mv_X10_83 (c_X3_forgetAll _ aH) (by first | assumption | rfl) rfl rfl (Nat.le_of_ble_eq_true rfl) ?_
              refine PW.aload_n (pc := 43) dX10_back_43 rfl ?_
              refine PW.getr (pc := 44) dX10_back_44 fl_X10_19 (by first | assumption | rfl) (by first | assumption | rfl) ?_
              refine PW.getr (pc := 47) dX10_back_47 fl_X10_111 (by first | assumption | rfl) (by first | assumption | rfl) ?_
              refine PW.geti (pc := 50) dX10_back_50 fl_X10_137 (by decide) (by first | assumption | rfl) ?_
              rw [pw_up_other (by omega), show I' 4 1 = (vn (cIm s 1).2 : Int) from m2.1]
              exact PW.ireturn (pc := 53) dX10_back_53 rfl (⟨rfl, rfl, fun q hq => y q (by omega), fun _ _ => rfl, t, sp, ps, tb, hCA, HP, (vT.congr rfl (fun q g => y q (by omega))), (vF.congr rfl (fun q g => y q (by omega)) (by rw [y (t + 1) (by omega)])), (vB.of (fun q g1 g2 => y q (by omega))), ⟨m2.cg (fun q g1 g2 => pw_up_ne q (by omega)), e3⟩, ⟨⟨pw_up_self _ _ _ _, Nat.zero_le _, fun i a b => absurd b (by show ¬ i < ((0 : Nat) : Int); omega)⟩, fun i a b => absurd b (by show ¬ i < ((0 : Nat) : Int); omega)⟩, (vI.congr rfl rfl (fun q g => y q (by omega))), (by unfold CSee; rw [y 0 (by omega)]; exact vS), (vK.congr (fun q g1 g2 => y q (by omega)))⟩)
            · omega
          · omega
  · rw [if_pos (by omega)]
    refine PW.iload_n (pc := 0) dX10_back_0 rfl ?_
    refine PW.if_lt (pc := 1) (tgt := 9) dX10_back_1 (by decide) (by first | omega | exact rg_of _) (fun c_1 => ?_) (fun c_1 => ?_)
    · refine PW.iconst (pc := 9) dX10_back_9 ?_
      exact PW.ireturn (pc := 10) dX10_back_10 rfl (CPo.same h)
    · refine PW.iload_n (pc := 4) dX10_back_4 rfl ?_
      refine PW.iconst (pc := 5) dX10_back_5 ?_
      refine PW.icmp_lt (pc := 6) (tgt := 11) dX10_back_6 (by decide) (by first | omega | exact rg_of _) (by first | omega | exact rg_of _) (fun c_6 => ?_) (fun c_6 => ?_)
      · omega
      · refine PW.iconst (pc := 9) dX10_back_9 ?_
        exact PW.ireturn (pc := 10) dX10_back_10 rfl (CPo.same h)
set_option maxRecDepth 100000 in
set_option maxHeartbeats 1000000 in
theorem unsn0 (f : Int → Int × SV) : unsn 0 f = 255 := by
  unfold unsn
  rw [bsum_congr (g := fun _ => true) 8 (fun j _ _ => cdec_true.mpr (fun k k0 k1 => absurd k1 (by omega)))]
  decide
set_option maxRecDepth 100000 in
set_option maxHeartbeats 1000000 in
theorem c_X10_forgetSeen (d : Nat) {I : PIm} (g0 : Γ[0]? = some (.inl 10)) : PC sc mX10_forgetSeen d 0 0 [.inr (some 0)] Γ I R (px none Γ (pw_up (pw_up I 0 11 0) 0 12 255) R) := by
  refine PC.ofPW (by decide) (Nat.le_of_ble_eq_true rfl) ?_
  refine PW.aload_n (pc := 0) dX10_forgetSeen_0 rfl ?_
  refine PW.iconst (pc := 1) dX10_forgetSeen_1 ?_
  refine PW.puti (pc := 2) dX10_forgetSeen_2 fl_X10_89 (by first | assumption | rfl) ?_
  refine PW.aload_n (pc := 5) dX10_forgetSeen_5 rfl ?_
  refine PW.sipush (pc := 6) dX10_forgetSeen_6 (by decide) ?_
  refine PW.puti (pc := 9) dX10_forgetSeen_9 fl_X10_93 (by first | assumption | rfl) ?_
  exact PW.vreturn (pc := 12) dX10_forgetSeen_12 rfl (px_rfl)
set_option maxRecDepth 100000 in
set_option maxHeartbeats 1000000 in
theorem p_forget (d : Nat) {I : PIm} {s : CS} (h : CRel Γ s I R) : PC sc mX10_forget (d + 1) 0 0 [.inr (some 0)] Γ I R (CPo Γ I R (sp_forget s).1 (sp_forget s).2) := by
  obtain ⟨t, sp, ps, tb, hCA, HP, hV⟩ := id h
  obtain ⟨⟨c0, c1, c2, c3, c4, c5, c6, c7, c8, c9, c10, c11⟩, ⟨aR, aS, aH, aF, aC, aB, a79⟩, ⟨aT, aSp, tsp⟩, g49, r490, r491, aI0, aI1, g50⟩ := id hCA
  obtain ⟨vT, vF, vB, ⟨vN, vNo⟩, ⟨vH, vHo⟩, vI, vS, vK⟩ := id hV
  have aR0 := aR.1
  obtain ⟨aS0, aS1, aS2, aS3, aS4⟩ := id aS
  have aS5 := aS4.1
  have aH0 := aH.1
  have aF0 := aF.1
  have aC0 := aC.1
  have aB0 := aB.1
  have aT0 := aT.1
  have aT1 := aT.2.1
  have aT9 := aT.2.2.2.2.2.2.2.2.2.1
  have aT90 := aT9.1
  obtain ⟨vNok, vNoF⟩ := id vNo
  obtain ⟨o1, o2, o3, o4, o5, o6⟩ := id vNok
  obtain ⟨n1, n2, n3, n4, n5, n6⟩ := id vN
  refine PC.ofPW (by decide) (Nat.le_of_ble_eq_true rfl) ?_
  have y : ∀ q, ¬ q = 0 → pw_up (pw_up I 0 11 0) 0 12 255 q = I q := fun q g => by rw [pw_up_ne q (by omega), pw_up_ne q (by omega)]
  obtain ⟨s1, s2, s3⟩ := id vS
  refine PW.aload_n (pc := 0) dX10_forget_0 rfl ?_
  refine PW.geti (pc := 1) dX10_forget_1 fl_X10_89 (by decide) (by first | assumption | rfl) ?_
  rw [s1]
  refine PW.istore_n (pc := 4) dX10_forget_4 (by decide) ?_
  refine PW.aload_n (pc := 5) dX10_forget_5 rfl ?_
  refine PW.invV0x (pc := 6) dX10_forget_6 mv_X10_86 (c_X10_forgetSeen _ c0) (by first | assumption | rfl) rfl rfl (Nat.le_of_ble_eq_true rfl) ?_
  refine PW.iload_n (pc := 9) dX10_forget_9 rfl ?_
  exact PW.ireturn (pc := 10) dX10_forget_10 rfl (⟨rfl, rfl, fun q hq => y q (by omega), fun _ _ => rfl, t, sp, ps, tb, hCA, HP, (vT.congr rfl (fun q g => y q (by omega))), (vF.congr rfl (fun q g => y q (by omega)) (by rw [y (t + 1) (by omega)])), (vB.of (fun q g1 g2 => y q (by omega))), (⟨vN.cg (fun q g1 g2 => y q (by omega)), vNo⟩), (⟨vH.cg HP (fun q g1 g2 => y q (by omega)), vHo⟩), (vI.congr rfl rfl (fun q g => y q (by omega))), ⟨by rw [pw_up_other (by omega), pw_up_self]; rfl, Nat.zero_le _, by rw [pw_up_self]; exact (unsn0 _).symm⟩, (vK.congr (fun q g1 g2 => y q (by omega)))⟩)
set_option maxRecDepth 100000 in
set_option maxHeartbeats 1000000 in
theorem p_unseen (d : Nat) {I : PIm} {s : CS} (h : CRel Γ s I R) : PC sc mX10_unseen d 0 0 [.inr (some 0)] Γ I R (CPo Γ I R (sp_unseen s) s) := by
  obtain ⟨t, sp, ps, tb, hCA, HP, hV⟩ := id h
  obtain ⟨⟨c0, c1, c2, c3, c4, c5, c6, c7, c8, c9, c10, c11⟩, ⟨aR, aS, aH, aF, aC, aB, a79⟩, ⟨aT, aSp, tsp⟩, g49, r490, r491, aI0, aI1, g50⟩ := id hCA
  obtain ⟨vT, vF, vB, ⟨vN, vNo⟩, ⟨vH, vHo⟩, vI, vS, vK⟩ := id hV
  have aR0 := aR.1
  obtain ⟨aS0, aS1, aS2, aS3, aS4⟩ := id aS
  have aS5 := aS4.1
  have aH0 := aH.1
  have aF0 := aF.1
  have aC0 := aC.1
  have aB0 := aB.1
  have aT0 := aT.1
  have aT1 := aT.2.1
  have aT9 := aT.2.2.2.2.2.2.2.2.2.1
  have aT90 := aT9.1
  obtain ⟨vNok, vNoF⟩ := id vNo
  obtain ⟨o1, o2, o3, o4, o5, o6⟩ := id vNok
  obtain ⟨n1, n2, n3, n4, n5, n6⟩ := id vN
  refine PC.ofPW (by decide) (Nat.le_of_ble_eq_true rfl) ?_
  obtain ⟨s1, s2, s3⟩ := id vS
  unfold sp_unseen
  refine PW.aload_n (pc := 0) dX10_unseen_0 rfl ?_
  refine PW.geti (pc := 1) dX10_unseen_1 fl_X10_93 (by decide) (by first | assumption | rfl) ?_
  rw [s3]
  exact PW.ireturn (pc := 4) dX10_unseen_4 rfl (CPo.same h)
set_option maxRecDepth 100000 in
set_option maxHeartbeats 1000000 in
theorem p_count (d : Nat) {I : PIm} {s : CS} {w : Int} (h : CRel Γ s I R) (hw : Rg w) : PC sc mX10_count d 0 0 [.inr (some 0), .inl w] Γ I R (CPo Γ I R (sp_count s w) s) := by
  obtain ⟨t, sp, ps, tb, hCA, HP, hV⟩ := id h
  obtain ⟨⟨c0, c1, c2, c3, c4, c5, c6, c7, c8, c9, c10, c11⟩, ⟨aR, aS, aH, aF, aC, aB, a79⟩, ⟨aT, aSp, tsp⟩, g49, r490, r491, aI0, aI1, g50⟩ := id hCA
  obtain ⟨vT, vF, vB, ⟨vN, vNo⟩, ⟨vH, vHo⟩, vI, vS, vK⟩ := id hV
  have aR0 := aR.1
  obtain ⟨aS0, aS1, aS2, aS3, aS4⟩ := id aS
  have aS5 := aS4.1
  have aH0 := aH.1
  have aF0 := aF.1
  have aC0 := aC.1
  have aB0 := aB.1
  have aT0 := aT.1
  have aT1 := aT.2.1
  have aT9 := aT.2.2.2.2.2.2.2.2.2.1
  have aT90 := aT9.1
  obtain ⟨vNok, vNoF⟩ := id vNo
  obtain ⟨o1, o2, o3, o4, o5, o6⟩ := id vNok
  obtain ⟨n1, n2, n3, n4, n5, n6⟩ := id vN
  refine PC.ofPW (by decide) (Nat.le_of_ble_eq_true rfl) ?_
  have e0 : I t 5 = ((cF s).1 : Int) := vF.1.1
  have e1 : I 3 2 = vi (cNow s) := n6
  have e2 : I 4 1 = (vn (cNow s) : Int) := n1
  have e3 : I 6 0 = vl (cNow s) := n3
  have e4 : I 6 1 = vf (cNow s) := n4
  have e5 : I 6 2 = vw (cNow s) := n5
  have e6 := vS.1
  have e7 := vT.1
  have e8 := vH.1
  by_cases q : w < 0 ∨ 8 < w
  · unfold sp_count
    rw [if_neg (by omega), if_neg (by omega), if_neg (by omega), if_neg (by omega), if_neg (by omega), if_neg (by omega), if_neg (by omega), if_neg (by omega), if_neg (by omega)]
    refine PW.iload_n (pc := 0) dX10_count_0 rfl ?_
    refine PW.tableOut (pc := 1) (tgt := 133) dX10_count_1 hw q (by decide) ?_
    refine PW.iconst (pc := 133) dX10_count_133 ?_
    exact PW.ireturn (pc := 134) dX10_count_134 rfl (CPo.same h)
  · rcases (show w = 0 ∨ w = 1 ∨ w = 2 ∨ w = 3 ∨ w = 4 ∨ w = 5 ∨ w = 6 ∨ w = 7 ∨ w = 8 by omega) with rfl | rfl | rfl | rfl | rfl | rfl | rfl | rfl | rfl
    · refine PW.iload_n (pc := 0) dX10_count_0 rfl ?_
      refine PW.tableIn (pc := 1) (tgt := 52) dX10_count_1 hw (by decide) (by decide) rfl (by decide) ?_
      refine PW.aload_n (pc := 52) dX10_count_52 rfl ?_
      refine PW.getr (pc := 53) dX10_count_53 fl_X10_69 (by first | assumption | rfl) (by first | assumption | rfl) ?_
      refine PW.geti (pc := 56) dX10_count_56 fl_X10_245 (by decide) (by first | assumption | rfl) ?_
      rw [e0]
      exact PW.ireturn (pc := 59) dX10_count_59 rfl (CPo.same h)
    · refine PW.iload_n (pc := 0) dX10_count_0 rfl ?_
      refine PW.tableIn (pc := 1) (tgt := 60) dX10_count_1 hw (by decide) (by decide) rfl (by decide) ?_
      refine PW.aload_n (pc := 60) dX10_count_60 rfl ?_
      refine PW.getr (pc := 61) dX10_count_61 fl_X10_19 (by first | assumption | rfl) (by first | assumption | rfl) ?_
      refine PW.geti (pc := 64) dX10_count_64 fl_X10_158 (by decide) (by first | assumption | rfl) ?_
      rw [e1]
      exact PW.ireturn (pc := 67) dX10_count_67 rfl (CPo.same h)
    · refine PW.iload_n (pc := 0) dX10_count_0 rfl ?_
      refine PW.tableIn (pc := 1) (tgt := 68) dX10_count_1 hw (by decide) (by decide) rfl (by decide) ?_
      refine PW.aload_n (pc := 68) dX10_count_68 rfl ?_
      refine PW.getr (pc := 69) dX10_count_69 fl_X10_19 (by first | assumption | rfl) (by first | assumption | rfl) ?_
      refine PW.getr (pc := 72) dX10_count_72 fl_X10_111 (by first | assumption | rfl) (by first | assumption | rfl) ?_
      refine PW.geti (pc := 75) dX10_count_75 fl_X10_137 (by decide) (by first | assumption | rfl) ?_
      rw [e2]
      exact PW.ireturn (pc := 78) dX10_count_78 rfl (CPo.same h)
    · refine PW.iload_n (pc := 0) dX10_count_0 rfl ?_
      refine PW.tableIn (pc := 1) (tgt := 79) dX10_count_1 hw (by decide) (by decide) rfl (by decide) ?_
      refine PW.aload_n (pc := 79) dX10_count_79 rfl ?_
      refine PW.getr (pc := 80) dX10_count_80 fl_X10_19 (by first | assumption | rfl) (by first | assumption | rfl) ?_
      refine PW.getr (pc := 83) dX10_count_83 fl_X10_161 (by first | assumption | rfl) (by first | assumption | rfl) ?_
      refine PW.geti (pc := 86) dX10_count_86 fl_X10_231 (by decide) (by first | assumption | rfl) ?_
      rw [e3]
      exact PW.ireturn (pc := 89) dX10_count_89 rfl (CPo.same h)
    · refine PW.iload_n (pc := 0) dX10_count_0 rfl ?_
      refine PW.tableIn (pc := 1) (tgt := 90) dX10_count_1 hw (by decide) (by decide) rfl (by decide) ?_
      refine PW.aload_n (pc := 90) dX10_count_90 rfl ?_
      refine PW.getr (pc := 91) dX10_count_91 fl_X10_19 (by first | assumption | rfl) (by first | assumption | rfl) ?_
      refine PW.getr (pc := 94) dX10_count_94 fl_X10_161 (by first | assumption | rfl) (by first | assumption | rfl) ?_
      refine PW.geti (pc := 97) dX10_count_97 fl_X10_269 (by decide) (by first | assumption | rfl) ?_
      rw [e4]
      exact PW.ireturn (pc := 100) dX10_count_100 rfl (CPo.same h)
    · refine PW.iload_n (pc := 0) dX10_count_0 rfl ?_
      refine PW.tableIn (pc := 1) (tgt := 101) dX10_count_1 hw (by decide) (by decide) rfl (by decide) ?_
      refine PW.aload_n (pc := 101) dX10_count_101 rfl ?_
      refine PW.getr (pc := 102) dX10_count_102 fl_X10_19 (by first | assumption | rfl) (by first | assumption | rfl) ?_
      refine PW.getr (pc := 105) dX10_count_105 fl_X10_161 (by first | assumption | rfl) (by first | assumption | rfl) ?_
      refine PW.geti (pc := 108) dX10_count_108 fl_X10_272 (by decide) (by first | assumption | rfl) ?_
      rw [e5]
      exact PW.ireturn (pc := 111) dX10_count_111 rfl (CPo.same h)
    · refine PW.iload_n (pc := 0) dX10_count_0 rfl ?_
      refine PW.tableIn (pc := 1) (tgt := 112) dX10_count_1 hw (by decide) (by decide) rfl (by decide) ?_
      refine PW.aload_n (pc := 112) dX10_count_112 rfl ?_
      refine PW.geti (pc := 113) dX10_count_113 fl_X10_89 (by decide) (by first | assumption | rfl) ?_
      rw [e6]
      exact PW.ireturn (pc := 116) dX10_count_116 rfl (CPo.same h)
    · refine PW.iload_n (pc := 0) dX10_count_0 rfl ?_
      refine PW.tableIn (pc := 1) (tgt := 117) dX10_count_1 hw (by decide) (by decide) rfl (by decide) ?_
      refine PW.aload_n (pc := 117) dX10_count_117 rfl ?_
      refine PW.getr (pc := 118) dX10_count_118 fl_X10_12 (by first | assumption | rfl) (by first | assumption | rfl) ?_
      refine PW.geti (pc := 121) dX10_count_121 fl_X10_104 (by decide) (by first | assumption | rfl) ?_
      rw [e7]
      exact PW.ireturn (pc := 124) dX10_count_124 rfl (CPo.same h)
    · refine PW.iload_n (pc := 0) dX10_count_0 rfl ?_
      refine PW.tableIn (pc := 1) (tgt := 125) dX10_count_1 hw (by decide) (by decide) rfl (by decide) ?_
      refine PW.aload_n (pc := 125) dX10_count_125 rfl ?_
      refine PW.getr (pc := 126) dX10_count_126 fl_X10_26 (by first | assumption | rfl) (by first | assumption | rfl) ?_
      refine PW.geti (pc := 129) dX10_count_129 fl_X10_171 (by decide) (by first | assumption | rfl) ?_
      rw [e8]
      exact PW.ireturn (pc := 132) dX10_count_132 rfl (CPo.same h)
end PUB2
