section PUB1
variable {sc : PSc} {Γ : List PTy} {R : PRm}
set_option maxRecDepth 100000 in
set_option maxHeartbeats 1000000 in
theorem c_X6_isFull (d : Nat) {I : PIm} {r : Nat} (A : ReadAt Γ R r) (h : Rg (I r 1)) : PC sc mX6_isFull d 0 0 [.inr (some r)] Γ I R (px (some (.inl (bi (100 ≤ I r 1)))) Γ I R) := by
  have a0 := A.1
  refine PC.ofPW (by decide) (Nat.le_of_ble_eq_true rfl) ?_
  refine PW.aload_n (pc := 0) dX6_isFull_0 rfl ?_
  refine PW.geti (pc := 1) dX6_isFull_1 fl_X6_15 (by decide) (by first | assumption | rfl) ?_
  refine PW.bipush (pc := 4) dX6_isFull_4 (by decide) ?_
  refine PW.icmp_lt (pc := 6) (tgt := 13) dX6_isFull_6 (by decide) (by first | omega | exact rg_of _) (by first | omega | exact rg_of _) (fun c_6 => ?_) (fun c_6 => ?_)
  · refine PW.iconst (pc := 13) dX6_isFull_13 ?_
    exact PW.zreturn (pc := 14) dX6_isFull_14 rfl (by first | exact Or.inl rfl | exact Or.inr rfl | omega) (by first | exact pxb_pos (by omega) | exact pxb_neg (by omega))
  · refine PW.iconst (pc := 9) dX6_isFull_9 ?_
    refine PW.goto (pc := 10) (tgt := 14) dX6_isFull_10 (by decide) ?_
    exact PW.zreturn (pc := 14) dX6_isFull_14 rfl (by first | exact Or.inl rfl | exact Or.inr rfl | omega) (by first | exact pxb_pos (by omega) | exact pxb_neg (by omega))
set_option maxRecDepth 100000 in
set_option maxHeartbeats 1000000 in
theorem c_X6_append (d : Nat) {I : PIm} {r : Nat} {c : Int} (A : ReadAt Γ R r) (h : 0 ≤ I r 1 ∧ I r 1 < 100) : PC sc mX6_append d 0 0 [.inr (some r), .inl c] Γ I R (px none Γ (pw_up (pw_up I (r + 1) (I r 1) c) r 1 (I r 1 + 1)) R) := by
  obtain ⟨a0, a1, a2⟩ := id A
  have e1 : pw_up I (r + 1) (I r 1) c r 1 = I r 1 := pw_up_other (by omega)
  refine PC.ofPW (by decide) (Nat.le_of_ble_eq_true rfl) ?_
  refine PW.aload_n (pc := 0) dX6_append_0 rfl ?_
  refine PW.geti (pc := 1) dX6_append_1 fl_X6_15 (by decide) (by first | assumption | rfl) ?_
  refine PW.if_lt (pc := 4) (tgt := 36) dX6_append_4 (by decide) (by first | omega | exact rg_of _) (fun c_4 => ?_) (fun c_4 => ?_)
  · omega
  · refine PW.aload_n (pc := 7) dX6_append_7 rfl ?_
    refine PW.geti (pc := 8) dX6_append_8 fl_X6_15 (by decide) (by first | assumption | rfl) ?_
    refine PW.bipush (pc := 11) dX6_append_11 (by decide) ?_
    refine PW.icmp_ge (pc := 13) (tgt := 36) dX6_append_13 (by decide) (by first | omega | exact rg_of _) (by first | omega | exact rg_of _) (fun c_13 => ?_) (fun c_13 => ?_)
    · omega
    · refine PW.aload_n (pc := 16) dX6_append_16 rfl ?_
      refine PW.getr (pc := 17) dX6_append_17 fl_X6_9 (by first | assumption | rfl) (by first | assumption | rfl) ?_
      refine PW.aload_n (pc := 20) dX6_append_20 rfl ?_
      refine PW.geti (pc := 21) dX6_append_21 fl_X6_15 (by decide) (by first | assumption | rfl) ?_
      refine PW.iload_n (pc := 24) dX6_append_24 rfl ?_
      refine PW.iast (pc := 25) dX6_append_25 (by first | assumption | rfl) (by omega) (by omega) (by omega) ?_
      refine PW.aload_n (pc := 26) dX6_append_26 rfl ?_
      refine PW.dup (pc := 27) dX6_append_27 ?_
      refine PW.geti (pc := 28) dX6_append_28 fl_X6_15 (by decide) (by first | assumption | rfl) ?_
      rw [e1]
      refine PW.iconst (pc := 31) dX6_append_31 ?_
      refine PW.iadd (pc := 32) dX6_append_32 ?_
      refine PW.puti (pc := 33) dX6_append_33 fl_X6_15 (by first | assumption | rfl) ?_
      exact PW.vreturn (pc := 36) dX6_append_36 rfl (px_rfl)
set_option maxRecDepth 100000 in
set_option maxHeartbeats 1000000 in
theorem p_type (d : Nat) {I : PIm} {s : CS} {c : Int} (h : CRel Γ s I R) (hc : Rg c) : PC sc mX10_type (d + 1) 0 0 [.inr (some 0), .inl c] Γ I R (CPo Γ I R (sp_type s c).1 (sp_type s c).2) := by
  obtain ⟨t, sp, ps, tb, hCA, HP, hV⟩ := id h
  obtain ⟨⟨c0, c1, c2, c3, c4, c5, c6, c7, c8, c9, c10, c11⟩, ⟨aR, aS, aH, aF, aC, aB, a79⟩, ⟨aT, aSp, tsp⟩, g49, r490, r491, aI0, aI1, g50⟩ := id hCA
  obtain ⟨vT, vF, vB, ⟨vN, vNo⟩, ⟨vH, vHo⟩, vI, vS, vK⟩ := id hV
  have aR0 := aR.1
  obtain ⟨aS0, aS1, aS2, aS3, aS4⟩ := id aS
  have aS5 := aS4.1
  have aH0 := aH.1
  have aF0 := aF.1
  have aC0 := aC.1
  have aB0 := aB.1
  have aT0 := aT.1
  have aT1 := aT.2.1
  have aT9 := aT.2.2.2.2.2.2.2.2.2.1
  have aT90 := aT9.1
  obtain ⟨vNok, vNoF⟩ := id vNo
  obtain ⟨o1, o2, o3, o4, o5, o6⟩ := id vNok
  obtain ⟨n1, n2, n3, n4, n5, n6⟩ := id vN
  obtain ⟨w1, w2, w3⟩ := id vT
  refine PC.ofPW (by decide) (Nat.le_of_ble_eq_true rfl) ?_
  unfold sp_type
  by_cases hb : c < 0 ∨ 255 < c
  · rw [if_pos hb]
    refine PW.iload_n (pc := 0) dX10_type_0 rfl ?_
    refine PW.if_lt (pc := 1) (tgt := 11) dX10_type_1 (by decide) (by first | omega | exact rg_of _) (fun c_1 => ?_) (fun c_1 => ?_)
    · refine PW.iconst (pc := 11) dX10_type_11 ?_
      exact PW.ireturn (pc := 12) dX10_type_12 rfl (CPo.same h)
    · refine PW.iload_n (pc := 4) dX10_type_4 rfl ?_
      refine PW.sipush (pc := 5) dX10_type_5 (by decide) ?_
      refine PW.icmp_le (pc := 8) (tgt := 13) dX10_type_8 (by decide) (by first | omega | exact rg_of _) (by first | omega | exact rg_of _) (fun c_8 => ?_) (fun c_8 => ?_)
      · omega
      · refine PW.iconst (pc := 11) dX10_type_11 ?_
        exact PW.ireturn (pc := 12) dX10_type_12 rfl (CPo.same h)
  · rw [if_neg hb]
    by_cases hf : 100 ≤ cN s
    · rw [if_pos hf]
      refine PW.iload_n (pc := 0) dX10_type_0 rfl ?_
      refine PW.if_lt (pc := 1) (tgt := 11) dX10_type_1 (by decide) (by first | omega | exact rg_of _) (fun c_1 => ?_) (fun c_1 => ?_)
      · omega
      · refine PW.iload_n (pc := 4) dX10_type_4 rfl ?_
        refine PW.sipush (pc := 5) dX10_type_5 (by decide) ?_
        refine PW.icmp_le (pc := 8) (tgt := 13) dX10_type_8 (by decide) (by first | omega | exact rg_of _) (by first | omega | exact rg_of _) (fun c_8 => ?_) (fun c_8 => ?_)
        · refine PW.aload_n (pc := 13) dX10_type_13 rfl ?_
          refine PW.getr (pc := 14) dX10_type_14 fl_X10_12 (by first | assumption | rfl) (by first | assumption | rfl) ?_
          refine PW.invV0x (pc := 17) dX10_type_17 mv_X10_96 (c_X6_isFull _ aR (by omega)) (by first | assumption | rfl) rfl rfl (Nat.le_of_ble_eq_true rfl) ?_
          refine PW.if_eq (pc := 20) (tgt := 26) dX10_type_20 (by decide) (rg_bi _) (fun c_20 => ?_) (fun c_20 => ?_)
          · exact absurd (show (100 : Int) ≤ I 1 1 by omega) (bi0 c_20)
          · refine PW.bipush (pc := 23) dX10_type_23 (by decide) ?_
            exact PW.ireturn (pc := 25) dX10_type_25 rfl (CPo.same h)
        · omega
    · rw [if_neg hf]
      have e11 : pw_up (pw_up I (1 + 1) (I 1 1) c) 1 1 (I 1 1 + 1) 1 1 = (cN s : Int) + 1 := by rw [pw_up_self, w1]
      have y : ∀ q, q ≠ 1 → q ≠ 2 → pw_up (pw_up I (1 + 1) (I 1 1) c) 1 1 (I 1 1 + 1) q = I q := fun q g1 g2 => by rw [pw_up_ne q g1, pw_up_ne q g2]
      refine PW.iload_n (pc := 0) dX10_type_0 rfl ?_
      refine PW.if_lt (pc := 1) (tgt := 11) dX10_type_1 (by decide) (by first | omega | exact rg_of _) (fun c_1 => ?_) (fun c_1 => ?_)
      · omega
      · refine PW.iload_n (pc := 4) dX10_type_4 rfl ?_
        refine PW.sipush (pc := 5) dX10_type_5 (by decide) ?_
        refine PW.icmp_le (pc := 8) (tgt := 13) dX10_type_8 (by decide) (by first | omega | exact rg_of _) (by first | omega | exact rg_of _) (fun c_8 => ?_) (fun c_8 => ?_)
        · refine PW.aload_n (pc := 13) dX10_type_13 rfl ?_
          refine PW.getr (pc := 14) dX10_type_14 fl_X10_12 (by first | assumption | rfl) (by first | assumption | rfl) ?_
          refine PW.invV0x (pc := 17) dX10_type_17 mv_X10_96 (c_X6_isFull _ aR (by omega)) (by first | assumption | rfl) rfl rfl (Nat.le_of_ble_eq_true rfl) ?_
          refine PW.if_eq (pc := 20) (tgt := 26) dX10_type_20 (by decide) (rg_bi _) (fun c_20 => ?_) (fun c_20 => ?_)
          · refine PW.aload_n (pc := 26) dX10_type_26 rfl ?_
            refine PW.getr (pc := 27) dX10_type_27 fl_X10_12 (by first | assumption | rfl) (by first | assumption | rfl) ?_
            refine PW.iload_n (pc := 30) dX10_type_30 rfl ?_
            refine PW.invV0x (pc := 31) dX10_type_31 mv_X10_100 (c_X6_append _ aR (by omega)) (by first | assumption | rfl) rfl rfl (Nat.le_of_ble_eq_true rfl) ?_
            refine PW.aload_n (pc := 34) dX10_type_34 rfl ?_
            refine PW.getr (pc := 35) dX10_type_35 fl_X10_12 (by first | assumption | rfl) (by first | assumption | rfl) ?_
            refine PW.geti (pc := 38) dX10_type_38 fl_X10_104 (by decide) (by first | assumption | rfl) ?_
            rw [e11]
            exact PW.ireturn (pc := 41) dX10_type_41 rfl (⟨rfl, rfl, fun q hq => y q (by omega) (by omega), fun _ _ => rfl, t, sp, ps, tb, hCA, HP, ⟨by rw [e11]; rfl, by show cN s + 1 ≤ 100; omega, fun k k0 k1 => by
              show _ = (if k = (cN s : Int) then c else cTx s k) ∧ 0 ≤ (if k = (cN s : Int) then c else cTx s k) ∧ (if k = (cN s : Int) then c else cTx s k) ≤ 255
              have k1' : k < ((cN s + 1 : Nat) : Int) := k1
              rw [pw_up_other (by omega), w1]
              by_cases q : k = (cN s : Int)
              · rw [if_pos q, q]; exact ⟨pw_up_self _ _ _ _, by omega, by omega⟩
              · rw [if_neg q, pw_up_other (by omega)]; exact w3 k k0 (by omega)⟩, vF.congr rfl (fun q g => y q (by omega) (by omega)) (by rw [y (t + 1) (by omega) (by omega)]), vB.of (fun q g1 g2 => y q (by omega) (by omega)), ⟨vN.cg (fun q g1 g2 => y q (by omega) (by omega)), vNo⟩, ⟨vH.cg HP (fun q g1 g2 => y q (by omega) (by omega)), vHo⟩, vI.congr rfl rfl (fun q g => y q (by omega) (by omega)), by unfold CSee; rw [y 0 (by omega) (by omega)]; exact vS, vK.congr (fun q g1 g2 => y q (by omega) (by omega))⟩)
          · exact absurd (bi1 c_20) (by omega)
        · omega
set_option maxRecDepth 100000 in
set_option maxHeartbeats 1000000 in
theorem p_clear (d : Nat) {I : PIm} {s : CS} (h : CRel Γ s I R) : PC sc mX10_clear d 0 0 [.inr (some 0)] Γ I R (CPo Γ I R (sp_clear s).1 (sp_clear s).2) := by
  obtain ⟨t, sp, ps, tb, hCA, HP, hV⟩ := id h
  obtain ⟨⟨c0, c1, c2, c3, c4, c5, c6, c7, c8, c9, c10, c11⟩, ⟨aR, aS, aH, aF, aC, aB, a79⟩, ⟨aT, aSp, tsp⟩, g49, r490, r491, aI0, aI1, g50⟩ := id hCA
  obtain ⟨vT, vF, vB, ⟨vN, vNo⟩, ⟨vH, vHo⟩, vI, vS, vK⟩ := id hV
  have aR0 := aR.1
  obtain ⟨aS0, aS1, aS2, aS3, aS4⟩ := id aS
  have aS5 := aS4.1
  have aH0 := aH.1
  have aF0 := aF.1
  have aC0 := aC.1
  have aB0 := aB.1
  have aT0 := aT.1
  have aT1 := aT.2.1
  have aT9 := aT.2.2.2.2.2.2.2.2.2.1
  have aT90 := aT9.1
  obtain ⟨vNok, vNoF⟩ := id vNo
  obtain ⟨o1, o2, o3, o4, o5, o6⟩ := id vNok
  obtain ⟨n1, n2, n3, n4, n5, n6⟩ := id vN
  obtain ⟨w1, w2, w3⟩ := id vT
  have y : ∀ q, q ≠ 1 → pw_up I 1 1 0 q = I q := fun q g1 => pw_up_ne q g1
  refine PC.ofPW (by decide) (Nat.le_of_ble_eq_true rfl) ?_
  refine PW.aload_n (pc := 0) dX10_clear_0 rfl ?_
  refine PW.getr (pc := 1) dX10_clear_1 fl_X10_12 (by first | assumption | rfl) (by first | assumption | rfl) ?_
  refine PW.geti (pc := 4) dX10_clear_4 fl_X10_104 (by decide) (by first | assumption | rfl) ?_
  rw [w1]
  refine PW.istore_n (pc := 7) dX10_clear_7 (by decide) ?_
  refine PW.aload_n (pc := 8) dX10_clear_8 rfl ?_
  refine PW.getr (pc := 9) dX10_clear_9 fl_X10_12 (by first | assumption | rfl) (by first | assumption | rfl) ?_
  refine PW.iconst (pc := 12) dX10_clear_12 ?_
  refine PW.puti (pc := 13) dX10_clear_13 fl_X10_104 (by first | assumption | rfl) ?_
  refine PW.iload_n (pc := 16) dX10_clear_16 rfl ?_
  exact PW.ireturn (pc := 17) dX10_clear_17 rfl (⟨rfl, rfl, fun q hq => y q (by omega), fun _ _ => rfl, t, sp, ps, tb, hCA, HP, ⟨pw_up_self _ _ _ _, by show 0 ≤ 100; omega, fun k k0 k1 => absurd k1 (by show ¬ k < ((0 : Nat) : Int); omega)⟩, vF.congr rfl (fun q g => y q (by omega)) (by rw [y (t + 1) (by omega)]), vB.of (fun q g1 g2 => y q (by omega)), ⟨vN.cg (fun q g1 g2 => y q (by omega)), vNo⟩, ⟨vH.cg HP (fun q g1 g2 => y q (by omega)), vHo⟩, vI.congr rfl rfl (fun q g => y q (by omega)), by unfold CSee; rw [y 0 (by omega)]; exact vS, vK.congr (fun q g1 g2 => y q (by omega))⟩)
set_option maxRecDepth 100000 in
set_option maxHeartbeats 1000000 in
theorem c_X10_isRegister (d : Nat) {I : PIm} {r : Int} (hr : Rg r) : PC sc mX10_isRegister d 0 0 [.inl r] Γ I R (px (some (.inl (bi (0 ≤ r ∧ r ≤ 3)))) Γ I R) := by
  refine PC.ofPW (by decide) (Nat.le_of_ble_eq_true rfl) ?_
  refine PW.iload_n (pc := 0) dX10_isRegister_0 rfl ?_
  refine PW.if_lt (pc := 1) (tgt := 13) dX10_isRegister_1 (by decide) (by first | omega | exact rg_of _) (fun c_1 => ?_) (fun c_1 => ?_)
  · refine PW.iconst (pc := 13) dX10_isRegister_13 ?_
    exact PW.zreturn (pc := 14) dX10_isRegister_14 rfl (by first | exact Or.inl rfl | exact Or.inr rfl | omega) (by first | exact pxb_pos (by omega) | exact pxb_neg (by omega))
  · refine PW.iload_n (pc := 4) dX10_isRegister_4 rfl ?_
    refine PW.iconst (pc := 5) dX10_isRegister_5 ?_
    refine PW.icmp_ge (pc := 6) (tgt := 13) dX10_isRegister_6 (by decide) (by first | omega | exact rg_of _) (by first | omega | exact rg_of _) (fun c_6 => ?_) (fun c_6 => ?_)
    · refine PW.iconst (pc := 13) dX10_isRegister_13 ?_
      exact PW.zreturn (pc := 14) dX10_isRegister_14 rfl (by first | exact Or.inl rfl | exact Or.inr rfl | omega) (by first | exact pxb_pos (by omega) | exact pxb_neg (by omega))
    · refine PW.iconst (pc := 9) dX10_isRegister_9 ?_
      refine PW.goto (pc := 10) (tgt := 14) dX10_isRegister_10 (by decide) ?_
      exact PW.zreturn (pc := 14) dX10_isRegister_14 rfl (by first | exact Or.inl rfl | exact Or.inr rfl | omega) (by first | exact pxb_pos (by omega) | exact pxb_neg (by omega))
set_option maxRecDepth 100000 in
set_option maxHeartbeats 1000000 in
theorem c_X10_isInstruction (d : Nat) {I : PIm} {k a b c : Int} (hk : Rg k) (ha : Rg a) (hb : Rg b) (hc : Rg c) : PC sc mX10_isInstruction (d + 1) 0 0 [.inl k, .inl a, .inl b, .inl c] Γ I R (px (some (.inl (bi (isI k a b c)))) Γ I R) := by
  refine PC.ofPW (by decide) (Nat.le_of_ble_eq_true rfl) ?_
  have yes : (0 ≤ k ∧ k ≤ 2) → (0 ≤ a ∧ a ≤ 3) → (0 ≤ b ∧ b ≤ 3) → (0 ≤ c ∧ c ≤ 3) → PW sc mX10_isInstruction (d + 1) 0 0 (px (some (.inl (bi (isI k a b c)))) Γ I R) 32 [some (.inl k), some (.inl a), some (.inl b), some (.inl c)] [] Γ I R := by
    intro h1 h2 h3 h4
    refine PW.iload_n (pc := 32) dX10_isInstruction_32 rfl ?_
    refine PW.iconst (pc := 33) dX10_isInstruction_33 ?_
    refine PW.icmp_eq (pc := 34) (tgt := 54) dX10_isInstruction_34 (by decide) (by first | omega | exact rg_of _) (by first | omega | exact rg_of _) (fun c_34 => ?_) (fun c_34 => ?_)
    · refine PW.iconst (pc := 54) dX10_isInstruction_54 ?_
      refine PW.goto (pc := 55) (tgt := 59) dX10_isInstruction_55 (by decide) ?_
      exact PW.zreturn (pc := 59) dX10_isInstruction_59 rfl (by first | exact Or.inl rfl | exact Or.inr rfl | omega) (by first | exact pxb_pos (by omega) | exact pxb_neg (by omega))
    · refine PW.iload_n (pc := 37) dX10_isInstruction_37 rfl ?_
      refine PW.if_ne (pc := 38) (tgt := 58) dX10_isInstruction_38 (by decide) (by first | omega | exact rg_of _) (fun c_38 => ?_) (fun c_38 => ?_)
      · refine PW.iconst (pc := 58) dX10_isInstruction_58 ?_
        exact PW.zreturn (pc := 59) dX10_isInstruction_59 rfl (by first | exact Or.inl rfl | exact Or.inr rfl | omega) (by first | exact pxb_pos (by omega) | exact pxb_neg (by omega))
      · refine PW.iload_n (pc := 41) dX10_isInstruction_41 rfl ?_
        refine PW.iconst (pc := 42) dX10_isInstruction_42 ?_
        refine PW.icmp_eq (pc := 43) (tgt := 54) dX10_isInstruction_43 (by decide) (by first | omega | exact rg_of _) (by first | omega | exact rg_of _) (fun c_43 => ?_) (fun c_43 => ?_)
        · refine PW.iconst (pc := 54) dX10_isInstruction_54 ?_
          refine PW.goto (pc := 55) (tgt := 59) dX10_isInstruction_55 (by decide) ?_
          exact PW.zreturn (pc := 59) dX10_isInstruction_59 rfl (by first | exact Or.inl rfl | exact Or.inr rfl | omega) (by first | exact pxb_pos (by omega) | exact pxb_neg (by omega))
        · refine PW.iload_n (pc := 46) dX10_isInstruction_46 rfl ?_
          refine PW.if_ne (pc := 47) (tgt := 58) dX10_isInstruction_47 (by decide) (by first | omega | exact rg_of _) (fun c_47 => ?_) (fun c_47 => ?_)
          · refine PW.iconst (pc := 58) dX10_isInstruction_58 ?_
            exact PW.zreturn (pc := 59) dX10_isInstruction_59 rfl (by first | exact Or.inl rfl | exact Or.inr rfl | omega) (by first | exact pxb_pos (by omega) | exact pxb_neg (by omega))
          · refine PW.iload_n (pc := 50) dX10_isInstruction_50 rfl ?_
            refine PW.if_ne (pc := 51) (tgt := 58) dX10_isInstruction_51 (by decide) (by first | omega | exact rg_of _) (fun c_51 => ?_) (fun c_51 => ?_)
            · refine PW.iconst (pc := 58) dX10_isInstruction_58 ?_
              exact PW.zreturn (pc := 59) dX10_isInstruction_59 rfl (by first | exact Or.inl rfl | exact Or.inr rfl | omega) (by first | exact pxb_pos (by omega) | exact pxb_neg (by omega))
            · refine PW.iconst (pc := 54) dX10_isInstruction_54 ?_
              refine PW.goto (pc := 55) (tgt := 59) dX10_isInstruction_55 (by decide) ?_
              exact PW.zreturn (pc := 59) dX10_isInstruction_59 rfl (by first | exact Or.inl rfl | exact Or.inr rfl | omega) (by first | exact pxb_pos (by omega) | exact pxb_neg (by omega))
  refine PW.iload_n (pc := 0) dX10_isInstruction_0 rfl ?_
  refine PW.if_lt (pc := 1) (tgt := 30) dX10_isInstruction_1 (by decide) (by first | omega | exact rg_of _) (fun c_1 => ?_) (fun c_1 => ?_)
  · refine PW.iconst (pc := 30) dX10_isInstruction_30 ?_
    exact PW.zreturn (pc := 31) dX10_isInstruction_31 rfl (by first | exact Or.inl rfl | exact Or.inr rfl | omega) (by first | exact pxb_neg (by omega) | exact pxb_neg (fun q => bi0 c_13 q.1.2.1) | exact pxb_neg (fun q => bi0 c_20 q.1.2.2.1) | exact pxb_neg (fun q => bi0 c_27 q.1.2.2.2))
  · refine PW.iload_n (pc := 4) dX10_isInstruction_4 rfl ?_
    refine PW.iconst (pc := 5) dX10_isInstruction_5 ?_
    refine PW.icmp_gt (pc := 6) (tgt := 30) dX10_isInstruction_6 (by decide) (by first | omega | exact rg_of _) (by first | omega | exact rg_of _) (fun c_6 => ?_) (fun c_6 => ?_)
    · refine PW.iconst (pc := 30) dX10_isInstruction_30 ?_
      exact PW.zreturn (pc := 31) dX10_isInstruction_31 rfl (by first | exact Or.inl rfl | exact Or.inr rfl | omega) (by first | exact pxb_neg (by omega) | exact pxb_neg (fun q => bi0 c_13 q.1.2.1) | exact pxb_neg (fun q => bi0 c_20 q.1.2.2.1) | exact pxb_neg (fun q => bi0 c_27 q.1.2.2.2))
    · refine PW.iload_n (pc := 9) dX10_isInstruction_9 rfl ?_
      refine PW.invS0x (pc := 10) dX10_isInstruction_10 ms_X10_154 (c_X10_isRegister _ ha) rfl rfl (Nat.le_of_ble_eq_true rfl) ?_
      refine PW.if_eq (pc := 13) (tgt := 30) dX10_isInstruction_13 (by decide) (rg_bi _) (fun c_13 => ?_) (fun c_13 => ?_)
      · refine PW.iconst (pc := 30) dX10_isInstruction_30 ?_
        exact PW.zreturn (pc := 31) dX10_isInstruction_31 rfl (by first | exact Or.inl rfl | exact Or.inr rfl | omega) (by first | exact pxb_neg (by omega) | exact pxb_neg (fun q => bi0 c_13 q.1.2.1) | exact pxb_neg (fun q => bi0 c_20 q.1.2.2.1) | exact pxb_neg (fun q => bi0 c_27 q.1.2.2.2))
      · refine PW.iload_n (pc := 16) dX10_isInstruction_16 rfl ?_
        refine PW.invS0x (pc := 17) dX10_isInstruction_17 ms_X10_154 (c_X10_isRegister _ hb) rfl rfl (Nat.le_of_ble_eq_true rfl) ?_
        refine PW.if_eq (pc := 20) (tgt := 30) dX10_isInstruction_20 (by decide) (rg_bi _) (fun c_20 => ?_) (fun c_20 => ?_)
        · refine PW.iconst (pc := 30) dX10_isInstruction_30 ?_
          exact PW.zreturn (pc := 31) dX10_isInstruction_31 rfl (by first | exact Or.inl rfl | exact Or.inr rfl | omega) (by first | exact pxb_neg (by omega) | exact pxb_neg (fun q => bi0 c_13 q.1.2.1) | exact pxb_neg (fun q => bi0 c_20 q.1.2.2.1) | exact pxb_neg (fun q => bi0 c_27 q.1.2.2.2))
        · refine PW.iload_n (pc := 23) dX10_isInstruction_23 rfl ?_
          refine PW.invS0x (pc := 24) dX10_isInstruction_24 ms_X10_154 (c_X10_isRegister _ hc) rfl rfl (Nat.le_of_ble_eq_true rfl) ?_
          refine PW.if_ne (pc := 27) (tgt := 32) dX10_isInstruction_27 (by decide) (rg_bi _) (fun c_27 => ?_) (fun c_27 => ?_)
          · exact yes (by omega) (bi1 c_13) (bi1 c_20) (bi1 c_27)
          · refine PW.iconst (pc := 30) dX10_isInstruction_30 ?_
            exact PW.zreturn (pc := 31) dX10_isInstruction_31 rfl (by first | exact Or.inl rfl | exact Or.inr rfl | omega) (by first | exact pxb_neg (by omega) | exact pxb_neg (fun q => bi0 c_13 q.1.2.1) | exact pxb_neg (fun q => bi0 c_20 q.1.2.2.1) | exact pxb_neg (fun q => bi0 c_27 q.1.2.2.2))
end PUB1
