section MACHINE
variable {sc : PSc} {Γ : List PTy} {R : PRm}
set_option maxRecDepth 100000 in
set_option maxHeartbeats 1000000 in
theorem c_X10_startAsTold (d : Nat) {I : PIm} {t n : Nat} {P : Int → Int} (g0 : Γ[0]? = some (.inl 10)) (c2 : R 0 1 = some 3) (c3 : R 0 2 = some 7) (c5 : R 0 4 = some 50) (c10 : R 0 9 = some t) (aS : SetAt Γ R 3) (aH : HistAt Γ R 7) (aT : ToldAt Γ R t) (g50 : Γ[50]? = some (.inr (1, 2))) (hP : ProgOK I (t + 7) P n) (ht : 48 < t) : PC sc mX10_startAsTold (d + 3) 0 0 [.inr (some 0)] Γ I R (fun v Γ' I' R' => v = none ∧ Γ' = Γ ∧ R' = R ∧ (∀ q, ¬ (q = 0 ∨ q = 7 ∨ q = 50 ∨ (3 ≤ q ∧ q ≤ 6)) → I' q = I q) ∧ SetIs I' 3 (P, n, 2, 0, 0, pw_shl 1 (I t 5) - 1) ∧ I' 7 1 = 0 ∧ I' 0 11 = 0 ∧ I' 0 12 = 255 ∧ I' 50 0 = 0 ∧ I' 50 1 = 0) := by
  have aS0 := aS.1
  have aH0 := aH.1
  have aT0 := aT.1
  refine PC.ofPW (by decide) (Nat.le_of_ble_eq_true rfl) ?_
  refine PW.aload_n (pc := 0) dX10_startAsTold_0 rfl ?_
  refine PW.getr (pc := 1) dX10_startAsTold_1 fl_X10_19 (by first | assumption | rfl) (by first | assumption | rfl) ?_
  refine PW.aload_n (pc := 4) dX10_startAsTold_4 rfl ?_
  refine PW.getr (pc := 5) dX10_startAsTold_5 fl_X10_69 (by first | assumption | rfl) (by first | assumption | rfl) ?_
  refine PW.invV0 (pc := 8) dX10_startAsTold_8 mv_X10_79 (c_X7_startAs _ aS aT hP (by omega)) (by first | assumption | rfl) rfl rfl (Nat.le_of_ble_eq_true rfl) ?_
  (rintro vv Γ' I' R' ⟨rfl, rfl, rfl, y, m1⟩)
  refine PW.aload_n (pc := 11) dX10_startAsTold_11 rfl ?_
  refine PW.getr (pc := 12) dX10_startAsTold_12 fl_X10_26 (by first | assumption | rfl) (by first | assumption | rfl) ?_
  refine PW.invV0x (pc := 15) dX10_startAsTold_15 mv_X10_83 (c_X3_forgetAll _ aH) (by first | assumption | rfl) rfl rfl (Nat.le_of_ble_eq_true rfl) ?_
  refine PW.aload_n (pc := 18) dX10_startAsTold_18 rfl ?_
  refine PW.invV0x (pc := 19) dX10_startAsTold_19 mv_X10_86 (c_X10_forgetSeen _ g0) (by first | assumption | rfl) rfl rfl (Nat.le_of_ble_eq_true rfl) ?_
  refine PW.iconst (pc := 22) dX10_startAsTold_22 ?_
  refine PW.istore_n (pc := 23) dX10_startAsTold_23 (by decide) ?_
  refine PW.iload_n (pc := 24) dX10_startAsTold_24 rfl ?_
  refine PW.iconst (pc := 25) dX10_startAsTold_25 ?_
  refine PW.icmp_ge (pc := 26) (tgt := 42) dX10_startAsTold_26 (by decide) (by first | omega | exact rg_of _) (by first | omega | exact rg_of _) (fun c_26 => ?_) (fun c_26 => ?_)
  · omega
  · refine PW.aload_n (pc := 29) dX10_startAsTold_29 rfl ?_
    refine PW.getr (pc := 30) dX10_startAsTold_30 fl_X10_34 (by first | assumption | rfl) (by first | assumption | rfl) ?_
    refine PW.iload_n (pc := 33) dX10_startAsTold_33 rfl ?_
    refine PW.iconst (pc := 34) dX10_startAsTold_34 ?_
    refine PW.zast (pc := 35) dX10_startAsTold_35 (by first | assumption | rfl) (by omega) (by omega) (by omega) (by first | exact Or.inl rfl | exact Or.inr rfl | omega) ?_
    refine PW.iinc (pc := 36) dX10_startAsTold_36 rfl (by decide) ?_
    refine PW.goto (pc := 39) (tgt := 24) dX10_startAsTold_39 (by decide) ?_
    refine PW.iload_n (pc := 24) dX10_startAsTold_24 rfl ?_
    refine PW.iconst (pc := 25) dX10_startAsTold_25 ?_
    refine PW.icmp_ge (pc := 26) (tgt := 42) dX10_startAsTold_26 (by decide) (by first | omega | exact rg_of _) (by first | omega | exact rg_of _) (fun c_26 => ?_) (fun c_26 => ?_)
    · omega
    · refine PW.aload_n (pc := 29) dX10_startAsTold_29 rfl ?_
      refine PW.getr (pc := 30) dX10_startAsTold_30 fl_X10_34 (by first | assumption | rfl) (by first | assumption | rfl) ?_
      refine PW.iload_n (pc := 33) dX10_startAsTold_33 rfl ?_
      refine PW.iconst (pc := 34) dX10_startAsTold_34 ?_
      refine PW.zast (pc := 35) dX10_startAsTold_35 (by first | assumption | rfl) (by omega) (by omega) (by omega) (by first | exact Or.inl rfl | exact Or.inr rfl | omega) ?_
      refine PW.iinc (pc := 36) dX10_startAsTold_36 rfl (by decide) ?_
      refine PW.goto (pc := 39) (tgt := 24) dX10_startAsTold_39 (by decide) ?_
      refine PW.iload_n (pc := 24) dX10_startAsTold_24 rfl ?_
      refine PW.iconst (pc := 25) dX10_startAsTold_25 ?_
      refine PW.icmp_ge (pc := 26) (tgt := 42) dX10_startAsTold_26 (by decide) (by first | omega | exact rg_of _) (by first | omega | exact rg_of _) (fun c_26 => ?_) (fun c_26 => ?_)
      · exact PW.vreturn (pc := 42) dX10_startAsTold_42 rfl (by
        refine ⟨rfl, rfl, rfl, fun q g => ?_, m1.cg (fun q a b => ?_), ?_, ?_, ?_, ?_, ?_⟩
        · rw [pw_up_ne q (by omega), pw_up_ne q (by omega), pw_up_ne q (by omega), pw_up_ne q (by omega), pw_up_ne q (by omega)]
          funext z; exact y q z (by omega)
        · rw [pw_up_ne q (by omega), pw_up_ne q (by omega), pw_up_ne q (by omega), pw_up_ne q (by omega), pw_up_ne q (by omega)]
        · rw [pw_up_other (by omega), pw_up_other (by omega), pw_up_other (by omega), pw_up_other (by omega), pw_up_self]
        · rw [pw_up_other (by omega), pw_up_other (by omega), pw_up_other (by omega), pw_up_self]
        · rw [pw_up_other (by omega), pw_up_other (by omega), pw_up_self]
        · rw [pw_up_other (by omega), pw_up_self]
        · exact pw_up_self _ _ _ _)
      · omega
set_option maxRecDepth 100000 in
set_option maxHeartbeats 1000000 in
theorem shl_all : ∀ n : Fin 7, 0 ≤ pw_shl 1 (n.val : Int) - 1 ∧ pw_shl 1 (n.val : Int) - 1 < 2 ^ n.val ∧ pw_shl 1 (n.val : Int) - 1 < 64 := by decide +kernel
set_option maxRecDepth 100000 in
set_option maxHeartbeats 1000000 in
theorem p_machine (d : Nat) {I : PIm} {s : CS} (h : CRel Γ s I R) : PC sc mX10_machine (d + 11) 0 0 [.inr (some 0)] Γ I R (CPo Γ I R (sp_machine s).1 (sp_machine s).2) := by
  obtain ⟨t, sp, ps, tb, hCA, HP, hV⟩ := id h
  obtain ⟨⟨c0, c1, c2, c3, c4, c5, c6, c7, c8, c9, c10, c11⟩, ⟨aR, aS, aH, aF, aC, aB, a79⟩, ⟨aT, aSp, tsp⟩, g49, r490, r491, aI0, aI1, g50⟩ := id hCA
  obtain ⟨vT, vF, vB, ⟨vN, vNo⟩, ⟨vH, vHo⟩, vI, vS, vK⟩ := id hV
  have aR0 := aR.1
  obtain ⟨aS0, aS1, aS2, aS3, aS4⟩ := id aS
  have aS5 := aS4.1
  have aH0 := aH.1
  have aF0 := aF.1
  have aC0 := aC.1
  have aB0 := aB.1
  have aT0 := aT.1
  have aT1 := aT.2.1
  have aT9 := aT.2.2.2.2.2.2.2.2.2.1
  have aT90 := aT9.1
  obtain ⟨vNok, vNoF⟩ := id vNo
  obtain ⟨o1, o2, o3, o4, o5, o6⟩ := id vNok
  obtain ⟨n1, n2, n3, n4, n5, n6⟩ := id vN
  refine PC.ofPW (by decide) (Nat.le_of_ble_eq_true rfl) ?_
  obtain ⟨w1, w2, w3⟩ := id vT
  have hx : TxOK (I (1 + 1)) (cN s : Int) := ⟨⟨by omega, by omega⟩, fun k k0 k1 => by obtain ⟨u1, u2, u3⟩ := w3 k k0 k1; rw [show I (1 + 1) k = cTx s k from u1]; omega⟩
  have RA := c_X6_readAll (sc := sc) (Γ := Γ) (R := R) d aR aSp w1 hx vB (by omega)
  rw [pAll_congr (tx := I (1 + 1)) (tx' := cTx s) (by omega) (fun k k0 k1 => (w3 k k0 k1).1) 100 pstart 0 (by omega) (by omega)] at RA
  unfold sp_machine
  have aSp0 := aSp.1
  generalize pAll (cTx s) (cN s) 100 pstart 0 = res at *
  rcases res with ⟨_ | σ, f⟩
  · refine PW.aload_n (pc := 0) dX10_machine_0 rfl ?_
    refine PW.getr (pc := 1) dX10_machine_1 fl_X10_12 (by first | assumption | rfl) (by first | assumption | rfl) ?_
    refine PW.aload_n (pc := 4) dX10_machine_4 rfl ?_
    refine PW.getr (pc := 5) dX10_machine_5 fl_X10_73 (by first | assumption | rfl) (by first | assumption | rfl) ?_
    refine PW.invV0 (pc := 8) dX10_machine_8 mv_X10_107 (RA) (by first | assumption | rfl) rfl rfl (Nat.le_of_ble_eq_true rfl) ?_
    (rintro v Γ' I' R' ⟨rfl, rfl, y', rfl, m1, m2⟩; dsimp only at m1; have y : ∀ q, ¬ (q = 1 ∨ (sp ≤ q ∧ q ≤ sp + 11)) → I' q = I q := fun q g => by funext z; exact y' q z (by omega) (by omega))
    refine PW.istore_n (pc := 11) dX10_machine_11 (by decide) ?_
    refine PW.iload_n (pc := 12) dX10_machine_12 rfl ?_
    refine PW.if_ge (pc := 13) (tgt := 18) dX10_machine_13 (by decide) (by first | omega | exact rg_of _) (fun c_13 => ?_) (fun c_13 => ?_)
    · omega
    · refine PW.iload_n (pc := 16) dX10_machine_16 rfl ?_
      exact PW.ireturn (pc := 17) dX10_machine_17 rfl (⟨rfl, rfl, fun q hq => y q (by omega), fun _ _ => rfl, t, sp, ps, tb, hCA, HP, by unfold CTxt; rw [y' 1 1 (by omega) (by omega), y 2 (by omega)]; exact vT, (vF.congr rfl (fun q g => y q (by omega)) (by rw [y (t + 1) (by omega)])), m2, (⟨vN.cg (fun q g1 g2 => y q (by omega)), vNo⟩), (⟨vH.cg HP (fun q g1 g2 => y q (by omega)), vHo⟩), (vI.congr rfl rfl (fun q g => y q (by omega))), (by unfold CSee; rw [y 0 (by omega)]; exact vS), (vK.congr (fun q g1 g2 => y q (by omega)))⟩)
  · refine PW.aload_n (pc := 0) dX10_machine_0 rfl ?_
    refine PW.getr (pc := 1) dX10_machine_1 fl_X10_12 (by first | assumption | rfl) (by first | assumption | rfl) ?_
    refine PW.aload_n (pc := 4) dX10_machine_4 rfl ?_
    refine PW.getr (pc := 5) dX10_machine_5 fl_X10_73 (by first | assumption | rfl) (by first | assumption | rfl) ?_
    refine PW.invV0 (pc := 8) dX10_machine_8 mv_X10_107 (RA) (by first | assumption | rfl) rfl rfl (Nat.le_of_ble_eq_true rfl) ?_
    (rintro v Γ' I' R' ⟨rfl, rfl, y', rfl, m1, tb', p1, p2, p3, p4, p5⟩)
    have g1 := p1.2.1
    have g2 := p2.2.1
    have y : ∀ q, ¬ (q = 1 ∨ (sp ≤ q ∧ q ≤ sp + 11)) → I' q = I q := fun q g => by funext z; exact y' q z (by omega) (by omega)
    have z1 : ∀ q, q ≠ 1 → pw_up I' 1 1 0 q = I' q := fun q g => pw_up_ne q g
    have r1 : ∀ q, q ≠ 0 → pw_upr (pw_upr R' 0 9 (some sp)) 0 10 (some t) q = R' q := fun q g => by rw [pw_upr_ne q g, pw_upr_ne q g]
    have q1 : pw_upr (pw_upr R' 0 9 (some sp)) 0 10 (some t) 0 0 = some 1 := by rw [pw_upr_other (by omega), pw_upr_other (by omega)]; exact c1
    have q2 : pw_upr (pw_upr R' 0 9 (some sp)) 0 10 (some t) 0 1 = some 3 := by rw [pw_upr_other (by omega), pw_upr_other (by omega)]; exact c2
    have q3 : pw_upr (pw_upr R' 0 9 (some sp)) 0 10 (some t) 0 2 = some 7 := by rw [pw_upr_other (by omega), pw_upr_other (by omega)]; exact c3
    have q4 : pw_upr (pw_upr R' 0 9 (some sp)) 0 10 (some t) 0 3 = some 49 := by rw [pw_upr_other (by omega), pw_upr_other (by omega)]; exact c4
    have q5 : pw_upr (pw_upr R' 0 9 (some sp)) 0 10 (some t) 0 4 = some 50 := by rw [pw_upr_other (by omega), pw_upr_other (by omega)]; exact c5
    have q6 : pw_upr (pw_upr R' 0 9 (some sp)) 0 10 (some t) 0 5 = some 51 := by rw [pw_upr_other (by omega), pw_upr_other (by omega)]; exact c6
    have q7 : pw_upr (pw_upr R' 0 9 (some sp)) 0 10 (some t) 0 6 = some 58 := by rw [pw_upr_other (by omega), pw_upr_other (by omega)]; exact c7
    have q8 : pw_upr (pw_upr R' 0 9 (some sp)) 0 10 (some t) 0 7 = some 62 := by rw [pw_upr_other (by omega), pw_upr_other (by omega)]; exact c8
    have q9 : pw_upr (pw_upr R' 0 9 (some sp)) 0 10 (some t) 0 8 = some 79 := by rw [pw_upr_other (by omega), pw_upr_other (by omega)]; exact c9
    have q10 : pw_upr (pw_upr R' 0 9 (some sp)) 0 10 (some t) 0 9 = some sp := by rw [pw_upr_other (by omega), pw_upr_self]
    have q11 : pw_upr (pw_upr R' 0 9 (some sp)) 0 10 (some t) 0 10 = some t := by rw [pw_upr_self]
    have xR : pw_upr R' 0 9 (some sp) 0 0 = some 1 := by rw [pw_upr_other (by omega)]; exact c1
    have PO : ProgOK (pw_up I' 1 1 0) (sp + 7) σ.2.1 σ.2.2 := by unfold ProgOK; rw [z1 _ (by omega), z1 _ (by omega)]; exact p2
    have aS' : SetAt Γ' (pw_upr (pw_upr R' 0 9 (some sp)) 0 10 (some t)) 3 := aS.congr (fun q a b => r1 q (by omega))
    have aH' : HistAt Γ' (pw_upr (pw_upr R' 0 9 (some sp)) 0 10 (some t)) 7 := by unfold HistAt; rw [r1 7 (by omega)]; exact aH
    have aT' : ToldAt Γ' (pw_upr (pw_upr R' 0 9 (some sp)) 0 10 (some t)) sp := aSp.congr (fun q a b => r1 q (by omega))
    have aU' : ToldAt Γ' (pw_upr (pw_upr R' 0 9 (some sp)) 0 10 (some t)) t := aT.congr (fun q a b => r1 q (by omega))
    have HP' : HPos Γ' (pw_upr (pw_upr R' 0 9 (some sp)) 0 10 (some t)) 7 ps := HP.cg (fun q a b => r1 q (by omega))
    have hCA' : CAt Γ' (pw_upr (pw_upr R' 0 9 (some sp)) 0 10 (some t)) sp t := by
      refine ⟨⟨c0, q1, q2, q3, q4, q5, q6, q7, q8, q9, q10, q11⟩, ⟨?_, aS', aH', ?_, ?_, ?_, a79⟩, ⟨aT', aU', by omega⟩, g49, by rw [r1 49 (by omega)]; exact r490, by rw [r1 49 (by omega)]; exact r491, aI0.congr (fun q a b => r1 q (by omega)), aI1.congr (fun q a b => r1 q (by omega)), g50⟩
      · unfold ReadAt; rw [r1 1 (by omega)]; exact aR
      · unfold FlowAt; rw [r1 51 (by omega)]; exact aF
      · unfold ClosAt; rw [r1 58 (by omega)]; exact aC
      · unfold BrkAt ProgAt TermsAt FlowAt; rw [r1 62 (by omega), r1 (62 + 1) (by omega), r1 (62 + 3) (by omega), r1 (62 + 9) (by omega)]; exact aB
    refine PW.istore_n (pc := 11) dX10_machine_11 (by decide) ?_
    refine PW.iload_n (pc := 12) dX10_machine_12 rfl ?_
    refine PW.if_ge (pc := 13) (tgt := 18) dX10_machine_13 (by decide) (by first | omega | exact rg_of _) (fun c_13 => ?_) (fun c_13 => ?_)
    · refine PW.aload_n (pc := 18) dX10_machine_18 rfl ?_
      refine PW.getr (pc := 19) dX10_machine_19 fl_X10_69 (by first | assumption | rfl) (by first | assumption | rfl) ?_
      refine PW.astore_n (pc := 22) dX10_machine_22 (by decide) ?_
      refine PW.aload_n (pc := 23) dX10_machine_23 rfl ?_
      refine PW.aload_n (pc := 24) dX10_machine_24 rfl ?_
      refine PW.getr (pc := 25) dX10_machine_25 fl_X10_73 (by first | assumption | rfl) (by first | assumption | rfl) ?_
      refine PW.putr (pc := 28) dX10_machine_28 fl_X10_69 (by first | assumption | rfl) ?_
      refine PW.aload_n (pc := 31) dX10_machine_31 rfl ?_
      refine PW.aload_n (pc := 32) dX10_machine_32 rfl ?_
      refine PW.putr (pc := 33) dX10_machine_33 fl_X10_73 (by first | assumption | rfl) ?_
      refine PW.aload_n (pc := 36) dX10_machine_36 rfl ?_
      refine PW.getr (pc := 37) dX10_machine_37 fl_X10_12 (by first | assumption | rfl) (by first | assumption | rfl) ?_
      refine PW.iconst (pc := 40) dX10_machine_40 ?_
      refine PW.puti (pc := 41) dX10_machine_41 fl_X10_104 (by first | assumption | rfl) ?_
      refine PW.aload_n (pc := 44) dX10_machine_44 rfl ?_
      refine PW.invV0 (pc := 45) dX10_machine_45 mv_X10_76 (c_X10_startAsTold _ c0 q2 q3 q5 q10 aS' aH' aT' g50 PO (by omega)) (by first | assumption | rfl) rfl rfl (Nat.le_of_ble_eq_true rfl) ?_
      (rintro v Γ' I2 R2 ⟨rfl, rfl, rfl, y2, s1, s2, s3, s4, s5, s6⟩)
      refine PW.iload_n (pc := 48) dX10_machine_48 rfl ?_
      exact PW.ireturn (pc := 49) dX10_machine_49 rfl (by
      obtain ⟨f1, f2, f3⟩ := id p1
      obtain ⟨x1, x2, x3⟩ := shl_all ⟨σ.1.1, by omega⟩
      dsimp only at x1 x2 x3
      have y3 : ∀ q, ¬ (q = 0 ∨ q = 1 ∨ q = 7 ∨ q = 50 ∨ (3 ≤ q ∧ q ≤ 6)) → I2 q = I' q := fun q g => by rw [y2 q (by omega), z1 q (by omega)]
      have y4 : ∀ q, ¬ (q = 0 ∨ q = 1 ∨ q = 7 ∨ q = 50 ∨ (3 ≤ q ∧ q ≤ 6) ∨ (sp ≤ q ∧ q ≤ sp + 11)) → I2 q = I q := fun q g => by rw [y3 q (by omega), y q (by omega)]
      have i1 : I2 1 1 = 0 := by rw [y2 1 (by omega), pw_up_self]
      rw [z1 sp (by omega), f1] at s1
      have hF : FactsIs I2 sp σ.1 tb' (I' (sp + 1) 5) := p1.congr (fun q g k => by rw [y3 q (by omega)]) (Int.le_refl _) (fun _ _ _ => rfl)
      refine ⟨rfl, rfl, fun q hq => y4 q (by omega), fun q hq => r1 q (by omega), sp, t, ps, tb', hCA', HP', ⟨?_, ?_, ?_⟩, ⟨?_, ?_, ?_, ?_⟩, ?_, ⟨s1, ?_⟩, ⟨⟨s2, Nat.zero_le _, fun i a b => absurd b (by show ¬ i < ((0 : Nat) : Int); omega)⟩, fun i a b => absurd b (by show ¬ i < ((0 : Nat) : Int); omega)⟩, ⟨⟨s5, Or.inl rfl⟩, s6, Or.inl rfl⟩, ⟨s3, Nat.zero_le _, s4.trans (unsn0 _).symm⟩, vK.congr (fun q g1 g2 => y4 q (by omega))⟩
      · exact i1
      · exact Nat.zero_le _
      · exact fun k k0 k1 => absurd k1 (by show ¬ k < ((0 : Nat) : Int); omega)
      · rw [y3 (sp + 1) (by omega), m1]; exact hF
      · rw [y3 (sp + 1) (by omega), m1]; exact p3.cg (fun q a b => y3 q (by omega))
      · rw [y3 (sp + 1) (by omega), m1]; omega
      · rw [y3 (sp + 1) (by omega), m1]; exact p4
      · exact vF.2.1.base.of (fun q a b => y4 q (by omega))
      · exact ⟨⟨p2.2.1, fun k k0 k1 => (p2.2.2 k k0 k1).2, (show (0 : Int) ≤ 2 ∧ (2 : Int) ≤ 3 by omega), (show (0 : Int) ≤ 0 ∧ (0 : Int) ≤ 7 by omega), (show (0 : Int) ≤ 0 ∧ (0 : Int) ≤ 1 by omega), x1, x3⟩, x2⟩)
    · omega
end MACHINE
