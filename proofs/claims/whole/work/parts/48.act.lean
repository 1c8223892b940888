section ACT
variable {sc : PSc} {Γ : List PTy} {R : PRm}
set_option maxRecDepth 100000 in
set_option maxHeartbeats 1000000 in
theorem Tab.sub {I : PIm} {h : Nat} {z z' : Int} {tb : Int → Tm} (T : Tab I h z tb) (h4 : 4 ≤ z') (hz : z' ≤ z) : Tab I h z' tb := ⟨h4, fun i a b => T.2.1 i a (by omega), fun i j a b a' b' => T.2.2 i j a (by omega) a' (by omega)⟩
/-- the class at work: its terms may be more than those that last -/
def CAct (Γ : List PTy) (s : CS) (I : PIm) (R : PRm) (t sp : Nat) (ps : Int → Nat) (tb : Int → Tm) (U : Tm → Prop) : Prop := (CAt Γ R t sp ∧ HPos Γ R 7 ps ∧ CVal s I t sp ps tb) ∧ Tab I (t + 1) (I (t + 1) 5) tb ∧ (I (t + 1) 6 ≤ I (t + 1) 5 ∧ I (t + 1) 5 ≤ 116) ∧ ∀ u, UT tb (I (t + 1) 5) u ↔ U u
set_option maxRecDepth 100000 in
set_option maxHeartbeats 1000000 in
theorem CAct.rel {I : PIm} {s : CS} {t sp : Nat} {ps : Int → Nat} {tb : Int → Tm} {U : Tm → Prop} (h : CAct Γ s I R t sp ps tb U) : CRel Γ s I R := ⟨t, sp, ps, tb, h.1⟩
/-- what closing leaves alone -/
def Fr58 (I I' : PIm) (R R' : PRm) : Prop := (∀ q, ¬ (58 ≤ q ∧ q ≤ 61) → I' q = I q) ∧ (∀ q, q ≠ 58 → R' q = R q) ∧ ∀ z : Int, z ≠ 3 → R' 58 z = R 58 z
set_option maxRecDepth 100000 in
set_option maxHeartbeats 1000000 in
theorem Fr58.rf (I : PIm) (R : PRm) : Fr58 I I R R := ⟨fun _ _ => rfl, fun _ _ => rfl, fun _ _ => rfl⟩
set_option maxRecDepth 100000 in
set_option maxHeartbeats 1000000 in
theorem Fr58.tr {I I1 I2 : PIm} {R R1 R2 : PRm} (h : Fr58 I I1 R R1) (h' : Fr58 I1 I2 R1 R2) : Fr58 I I2 R R2 := ⟨fun q g => (h'.1 q g).trans (h.1 q g), fun q g => (h'.2.1 q g).trans (h.2.1 q g), fun z g => (h'.2.2 z g).trans (h.2.2 z g)⟩
set_option maxRecDepth 100000 in
set_option maxHeartbeats 1000000 in
theorem CVal.cg58 {I I' : PIm} {s : CS} {t sp : Nat} {ps : Int → Nat} {tb : Int → Tm} (hCA : CAt Γ R t sp) (HP : HPos Γ R 7 ps) (V : CVal s I t sp ps tb) (y : ∀ q, ¬ (58 ≤ q ∧ q ≤ 61) → I' q = I q) : CVal s I' t sp ps tb := by
  obtain ⟨-, -, ⟨aT, aSp, tsp⟩, -⟩ := id hCA
  obtain ⟨vT, vF, vB, ⟨vN, vNo⟩, ⟨vH, vHo⟩, vI, vS, vK⟩ := id V
  exact ⟨(vT.congr rfl (fun q g => y q (by omega))), (vF.congr rfl (fun q g => y q (by omega)) (by rw [y (t + 1) (by omega)])), (vB.of (fun q g1 g2 => y q (by omega))), (⟨vN.cg (fun q g1 g2 => y q (by omega)), vNo⟩), (⟨vH.cg HP (fun q g1 g2 => y q (by omega)), vHo⟩), (vI.congr rfl rfl (fun q g => y q (by omega))), (by unfold CSee; rw [y 0 (by omega)]; exact vS), (vK.congr (fun q g1 g2 => y q (by omega)))⟩
set_option maxRecDepth 100000 in
set_option maxHeartbeats 1000000 in
theorem CAct.cg {I I' : PIm} {R' : PRm} {s : CS} {t sp : Nat} {ps : Int → Nat} {tb : Int → Tm} {U : Tm → Prop} (h : CAct Γ s I R t sp ps tb U) (f : Fr58 I I' R R') : CAct Γ s I' R' t sp ps tb U := by
  obtain ⟨⟨hCA, HP, hV⟩, a, b, c⟩ := h
  obtain ⟨f1, f2, f3⟩ := f
  have tsp : (t = 80 ∧ sp = 92) ∨ (t = 92 ∧ sp = 80) := hCA.2.2.1.2.2
  refine ⟨⟨hCA.cg (fun q _ g => f2 q g) f3, HP.cg (fun q g1 g2 => f2 q (by omega)), CVal.cg58 hCA HP hV f1⟩, ?_, ?_, ?_⟩
  · rw [f1 (t + 1) (by omega)]; exact a.cg (fun q g1 g2 => f1 q (by omega))
  · rw [f1 (t + 1) (by omega)]; exact b
  · rw [f1 (t + 1) (by omega)]; exact c
set_option maxRecDepth 100000 in
set_option maxHeartbeats 1000000 in
theorem FlowR.cg {I I' : PIm} {h f : Nat} {tb : Int → Tm} {P : Int → Int} {lag fw w : Int} {n : Nat} (F : FlowR I h f tb P lag fw w n) (y : ∀ q, (h ≤ q ∧ q ≤ h + 5) ∨ (f + 1 ≤ q ∧ q ≤ f + 4) → I' q = I q) : FlowR I' h f tb P lag fw w n := by
  obtain ⟨a, b, c⟩ := F
  unfold FlowR
  rw [y h (by omega), y (f + 1) (by omega), y (f + 2) (by omega), y (f + 4) (by omega)]
  exact ⟨a.cg (fun q g1 g2 => y q (by omega)), b, c⟩
set_option maxRecDepth 100000 in
set_option maxHeartbeats 1000000 in
/-- the start of a call that uses the facts' terms only -/
theorem CAct.drop {I : PIm} {s : CS} {t sp : Nat} {ps : Int → Nat} {tb : Int → Tm} (hCA : CAt Γ R t sp) (HP : HPos Γ R 7 ps) (hV : CVal s I t sp ps tb) : CAct Γ s (pw_up I (t + 1) 5 (I (t + 1) 6)) R t sp ps tb (UF (cF s)) := by
  obtain ⟨-, -, ⟨aT, aSp, tsp⟩, -⟩ := id hCA
  obtain ⟨vT, vF, vB, ⟨vN, vNo⟩, ⟨vH, vHo⟩, vI, vS, vK⟩ := id hV
  have y : ∀ q, ¬ q = t + 1 → pw_up I (t + 1) 5 (I (t + 1) 6) q = I q := fun q g => pw_up_ne q g
  have e6 : pw_up I (t + 1) 5 (I (t + 1) 6) (t + 1) 6 = I (t + 1) 6 := pw_up_other (by omega)
  have e5 : pw_up I (t + 1) 5 (I (t + 1) 6) (t + 1) 5 = I (t + 1) 6 := pw_up_self _ _ _ _
  obtain ⟨f1, f2, f3, f4⟩ := id vF
  refine ⟨⟨hCA, HP, (vT.congr rfl (fun q g => y q (by omega))), vF.congr rfl (fun q g => y q (by omega)) e6, (vB.of (fun q g1 g2 => y q (by omega))), (⟨vN.cg (fun q g1 g2 => y q (by omega)), vNo⟩), (⟨vH.cg HP (fun q g1 g2 => y q (by omega)), vHo⟩), (vI.congr rfl rfl (fun q g => y q (by omega))), (by unfold CSee; rw [y 0 (by omega)]; exact vS), (vK.congr (fun q g1 g2 => y q (by omega)))⟩, ?_, ?_, ?_⟩
  · rw [e5]; exact f2.cg (fun q a b => y q (by omega))
  · rw [e5, e6]; omega
  · rw [e5]; exact f4
set_option maxRecDepth 100000 in
set_option maxHeartbeats 1000000 in
theorem c_X10_goThrough (d : Nat) {I : PIm} {s : CS} {t sp pp : Nat} {ps : Int → Nat} {tb : Int → Tm} {lag fw w : Int} (hCA : CAt Γ R t sp) (HP : HPos Γ R 7 ps) (hV : CVal s I t sp ps tb) (hpp : pp = 6 ∨ pp = 79) (hl : I pp 0 = lag) (hf : I pp 1 = fw) (hw : I pp 2 = w) (hl3 : 0 ≤ lag ∧ lag ≤ 3) (hwr : Rg w) : PC sc mX10_goThrough (d + 5) 0 0 [.inr (some 0), .inr (some pp)] Γ I R (fun v Γ' I' R' => v = none ∧ Γ' = Γ ∧ R' = R ∧ (∀ q, ¬ ((t + 1 ≤ q ∧ q ≤ t + 6) ∨ (52 ≤ q ∧ q ≤ 57)) → I' q = I q) ∧ ∃ tb', CAct Γ s I' R t sp ps tb' (UR (UF (cF s)) (vP (cNow s)) lag fw w (vn (cNow s))) ∧ FlowR I' (t + 1) 51 tb' (vP (cNow s)) lag fw w (vn (cNow s))) := by
  have h : CRel Γ s I R := ⟨t, sp, ps, tb, hCA, HP, hV⟩
  have D := CAct.drop hCA HP hV
  obtain ⟨⟨-, -, dV⟩, d1, d2, d3⟩ := id D
  obtain ⟨⟨c0, c1, c2, c3, c4, c5, c6, c7, c8, c9, c10, c11⟩, ⟨aR, aS, aH, aF, aC, aB, a79⟩, ⟨aT, aSp, tsp⟩, g49, r490, r491, aI0, aI1, g50⟩ := id hCA
  obtain ⟨aS0, aS1, aS2, aS3, aS4⟩ := id aS
  have aF0 := aF.1
  have aT0 := aT.1
  have aT1 := aT.2.1
  have aT9 := aT.2.2.2.2.2.2.2.2.2.1
  have aT90 := aT9.1
  have app : Γ[pp]? = some (.inl 4) := by rcases hpp with rfl | rfl; exact aS3; exact a79
  obtain ⟨vT, vF, vB, ⟨vN, vNo⟩, ⟨vH, vHo⟩, vI, vS, vK⟩ := id dV
  obtain ⟨vNok, vNoF⟩ := id vNo
  have o1 : vn (cNow s) ≤ 6 := vNok.1
  have PO : ProgOK (pw_up I (t + 1) 5 (I (t + 1) 6)) (3 + 1) (vP (cNow s)) (vn (cNow s)) := ⟨vN.1, vNok.1, fun k k0 k1 => ⟨vN.2.1 k k0 k1, vNok.2.1 k k0 k1⟩⟩
  have ep : pw_up I (t + 1) 5 (I (t + 1) 6) pp = I pp := pw_up_ne pp (by omega)
  have hw0 := vF.2.2.1
  have e5 : pw_up I (t + 1) 5 (I (t + 1) 6) (t + 1) 5 = I (t + 1) 6 := pw_up_self _ _ _ _
  have e6 : pw_up I (t + 1) 5 (I (t + 1) 6) (t + 1) 6 = I (t + 1) 6 := pw_up_other (by omega)
  have y0 : ∀ q, q ≠ t + 1 → pw_up I (t + 1) 5 (I (t + 1) 6) q = I q := fun q g => pw_up_ne q g
  generalize hI0 : pw_up I (t + 1) 5 (I (t + 1) 6) = I0 at D dV d1 d2 d3 vT vF vB vN vH vI vS vK PO ep hw0 e5 e6 y0
  have fin : ∀ (I1 I2 : PIm) (tb1 tb2 : Int → Tm), FlowP I0 I1 (t + 1) 51 tb tb1 (vP (cNow s)) (vn (cNow s)) → FlowQ I1 I2 (t + 1) 51 tb1 tb2 (vP (cNow s)) lag fw w (vn (cNow s)) → (none : Option PV) = none ∧ Γ = Γ ∧ R = R ∧ (∀ q, ¬ ((t + 1 ≤ q ∧ q ≤ t + 6) ∨ (52 ≤ q ∧ q ≤ 57)) → I2 q = I q) ∧ ∃ tb', CAct Γ s I2 R t sp ps tb' (UR (UF (cF s)) (vP (cNow s)) lag fw w (vn (cNow s))) ∧ FlowR I2 (t + 1) 51 tb' (vP (cNow s)) lag fw w (vn (cNow s)) := by
    intro I1 I2 tb1 tb2 A B
    obtain ⟨F1, F2, F3, F4, F5, F6⟩ := FlowR.of A B (by omega)
    have y : ∀ q, ¬ ((t + 1 ≤ q ∧ q ≤ t + 6) ∨ (52 ≤ q ∧ q ≤ 57)) → I2 q = I0 q := fun q g => by funext z; exact F5 q z (by omega) (by omega)
    have TT := F1.1
    have h4 := vF.2.1.1
    refine ⟨rfl, rfl, rfl, fun q g => by rw [y q g, y0 q (by omega)], tb2, ⟨⟨hCA, HP, (vT.congr rfl (fun q g => y q (by omega))), ⟨?_, ?_, ?_, ?_⟩, (vB.of (fun q g1 g2 => y q (by omega))), (⟨vN.cg (fun q g1 g2 => y q (by omega)), vNo⟩), (⟨vH.cg HP (fun q g1 g2 => y q (by omega)), vHo⟩), (vI.congr rfl rfl (fun q g => y q (by omega))), (by unfold CSee; rw [y 0 (by omega)]; exact vS), (vK.congr (fun q g1 g2 => y q (by omega)))⟩, TT, ?_, ?_⟩, F1⟩
    · rw [F4]; exact vF.1.grow (fun q g k => by rw [y q (by omega)]) (Int.le_refl _) (fun j hj => F2 j (by omega))
    · rw [F4]; exact TT.sub h4 (by omega)
    · rw [F4]; exact hw0
    · rw [F4]; intro u; rw [← vF.2.2.2 u]
      exact ⟨fun ⟨i, i0, i1, e⟩ => ⟨i, i0, i1, by rw [← F2 i (by omega)]; exact e⟩, fun ⟨i, i0, i1, e⟩ => ⟨i, i0, i1, by rw [F2 i (by omega)]; exact e⟩⟩
    · rw [F4]; omega
    · intro u
      rw [F6 u]
      unfold UR
      rw [d3 u]
  refine PC.ofPW (by decide) (Nat.le_of_ble_eq_true rfl) ?_
  refine PW.aload_n (pc := 0) dX10_goThrough_0 rfl ?_
  refine PW.getr (pc := 1) dX10_goThrough_1 fl_X10_69 (by first | assumption | rfl) (by first | assumption | rfl) ?_
  refine PW.getr (pc := 4) dX10_goThrough_4 fl_X10_175 (by first | assumption | rfl) (by first | assumption | rfl) ?_
  refine PW.invV0x (pc := 7) dX10_goThrough_7 mv_X10_179 (c_X8_dropPassing _ aT90) (by first | assumption | rfl) rfl rfl (Nat.le_of_ble_eq_true rfl) ?_
  rw [hI0]
  refine PW.aload_n (pc := 10) dX10_goThrough_10 rfl ?_
  refine PW.getr (pc := 11) dX10_goThrough_11 fl_X10_41 (by first | assumption | rfl) (by first | assumption | rfl) ?_
  refine PW.aload_n (pc := 14) dX10_goThrough_14 rfl ?_
  refine PW.getr (pc := 15) dX10_goThrough_15 fl_X10_19 (by first | assumption | rfl) (by first | assumption | rfl) ?_
  refine PW.getr (pc := 18) dX10_goThrough_18 fl_X10_111 (by first | assumption | rfl) (by first | assumption | rfl) ?_
  refine PW.aload_n (pc := 21) dX10_goThrough_21 rfl ?_
  refine PW.getr (pc := 22) dX10_goThrough_22 fl_X10_69 (by first | assumption | rfl) (by first | assumption | rfl) ?_
  refine PW.getr (pc := 25) dX10_goThrough_25 fl_X10_175 (by first | assumption | rfl) (by first | assumption | rfl) ?_
  refine PW.invV0 (pc := 28) dX10_goThrough_28 mv_X10_214 (c_X2_goPlain _ aF aS4 aT9 d1 PO (by omega) (by omega) (by omega) (by omega)) (by first | assumption | rfl) rfl rfl (Nat.le_of_ble_eq_true rfl) ?_
  (rintro v Γ' I1 R' ⟨rfl, rfl, rfl, tb1, A⟩)
  have A3 := A.2.2.1
  have A1 := A.1
  have A6 := A.2.1
  have A5 := A.1.2.1
  have PO1 : ProgOK I1 (3 + 1) (vP (cNow s)) (vn (cNow s)) := by
    unfold ProgOK
    rw [A3 _ _ (by omega) (by omega)]
    exact ⟨PO.1, PO.2.1, fun k k0 k1 => ⟨by rw [A3 _ _ (by omega) (by omega)]; exact (PO.2.2 k k0 k1).1, (PO.2.2 k k0 k1).2⟩⟩
  refine PW.aload_n (pc := 31) dX10_goThrough_31 rfl ?_
  refine PW.getr (pc := 32) dX10_goThrough_32 fl_X10_41 (by first | assumption | rfl) (by first | assumption | rfl) ?_
  refine PW.aload_n (pc := 35) dX10_goThrough_35 rfl ?_
  refine PW.getr (pc := 36) dX10_goThrough_36 fl_X10_19 (by first | assumption | rfl) (by first | assumption | rfl) ?_
  refine PW.getr (pc := 39) dX10_goThrough_39 fl_X10_111 (by first | assumption | rfl) (by first | assumption | rfl) ?_
  refine PW.aload_n (pc := 42) dX10_goThrough_42 rfl ?_
  refine PW.aload_n (pc := 43) dX10_goThrough_43 rfl ?_
  refine PW.getr (pc := 44) dX10_goThrough_44 fl_X10_69 (by first | assumption | rfl) (by first | assumption | rfl) ?_
  refine PW.getr (pc := 47) dX10_goThrough_47 fl_X10_175 (by first | assumption | rfl) (by first | assumption | rfl) ?_
  refine PW.invV0 (pc := 50) dX10_goThrough_50 mv_X10_218 (c_X2_goPiped (lag := lag) (fw := fw) (w := w) _ aF aS4 app aT9 A1.1 PO1 (by omega) (by rw [A3 _ _ (by omega) (by omega), ep]; exact hl) (by rw [A3 _ _ (by omega) (by omega), ep]; exact hf) (by rw [A3 _ _ (by omega) (by omega), ep]; exact hw) hl3 hwr (by omega) (by omega) (by omega) (by omega) (by omega)) (by first | assumption | rfl) rfl rfl (Nat.le_of_ble_eq_true rfl) ?_
  (rintro v Γ' I2 R' ⟨rfl, rfl, rfl, tb2, B⟩)
  exact PW.vreturn (pc := 53) dX10_goThrough_53 rfl (fin _ _ _ _ A B)
set_option maxRecDepth 100000 in
set_option maxHeartbeats 1000000 in
theorem c_X10_judge (d : Nat) {I : PIm} {s : CS} {t sp : Nat} {ps : Int → Nat} {tb : Int → Tm} {U : Tm → Prop} {a b : Int} (h : CAct Γ s I R t sp ps tb U) (ha : 0 ≤ a ∧ a < I (t + 1) 5) (hb : 0 ≤ b ∧ b < I (t + 1) 5) : PC sc mX10_judge (d + 6) 0 0 [.inr (some 0), .inl a, .inl b] Γ I R (fun v Γ' I' R' => v = some (.inl (eqv U (cF s) (vi (cNow s)) (tb a) (tb b))) ∧ Γ' = Γ ∧ Fr58 I I' R R') := by
  obtain ⟨⟨hCA, HP, hV⟩, T5, hz, hU⟩ := id h
  obtain ⟨⟨c0, c1, c2, c3, c4, c5, c6, c7, c8, c9, c10, c11⟩, ⟨aR, aS, aH, aF, aC, aB, a79⟩, ⟨aT, aSp, tsp⟩, g49, r490, r491, aI0, aI1, g50⟩ := id hCA
  have aS0 := aS.1
  have aC0 := aC.1
  have aT0 := aT.1
  have aT9 := aT.2.2.2.2.2.2.2.2.2.1
  obtain ⟨vT, vF, vB, ⟨vN, vNo⟩, ⟨vH, vHo⟩, vI, vS, vK⟩ := id hV
  have n6 : I 3 2 = vi (cNow s) := vN.2.2.2.2.2
  have eU : UT tb (I (t + 1) 5) = U := funext fun u => propext (hU u)
  have h4 := T5.1
  obtain ⟨zn, hzn⟩ : ∃ zn : Nat, I (t + 1) 5 = zn := ⟨(I (t + 1) 5).toNat, by omega⟩
  rw [hzn] at T5 hz eU ha hb
  have FI : FactsIs I t (cF s) tb zn := vF.1.congr (fun _ _ _ => rfl) (by omega) (fun _ _ _ => rfl)
  have EU : ∀ x y, EQ (cF s) (vi (cNow s)) x y → UT tb zn x ∧ UT tb zn y := fun x y e => by
    obtain ⟨k, k0, k1, k2, k3, rfl, rfl⟩ := e
    obtain ⟨-, ⟨q1, q2, q3⟩, q4, q5, q6⟩ := FI.2.2 k k0 k1
    exact ⟨⟨_, q1, q2, q3⟩, ⟨_, q4, q5, q6⟩⟩
  rw [← eU]
  have fr : ∀ I2 : PIm, (∀ q, ¬ (58 ≤ q ∧ q ≤ 61) → I2 q = I q) → Fr58 I I2 R R := fun I2 y => ⟨y, fun q g => rfl, fun z g => rfl⟩
  refine PC.ofPW (by decide) (Nat.le_of_ble_eq_true rfl) ?_
  refine PW.aload_n (pc := 0) dX10_judge_0 rfl ?_
  refine PW.getr (pc := 1) dX10_judge_1 fl_X10_48 (by first | assumption | rfl) (by first | assumption | rfl) ?_
  refine PW.aload_n (pc := 4) dX10_judge_4 rfl ?_
  refine PW.getr (pc := 5) dX10_judge_5 fl_X10_69 (by first | assumption | rfl) (by first | assumption | rfl) ?_
  refine PW.aload_n (pc := 8) dX10_judge_8 rfl ?_
  refine PW.getr (pc := 9) dX10_judge_9 fl_X10_19 (by first | assumption | rfl) (by first | assumption | rfl) ?_
  refine PW.geti (pc := 12) dX10_judge_12 fl_X10_158 (by decide) (by first | assumption | rfl) ?_
  rw [n6]
  refine PW.invV0 (pc := 15) dX10_judge_15 mv_X10_190 (c_X1_closeBy _ aC aT hzn T5 (by omega) FI (by omega)) (by first | assumption | rfl) rfl rfl (Nat.le_of_ble_eq_true rfl) ?_
  (rintro v Γ' I1 R' ⟨rfl, rfl, rfl, y', m1, m2⟩)
  have y : ∀ q, ¬ (58 ≤ q ∧ q ≤ 61) → I1 q = I q := fun q g => by funext z; exact y' q z (by omega)
  have n6' : I1 3 2 = vi (cNow s) := by rw [y 3 (by omega)]; exact n6
  have FI1 : FactsIs I1 t (cF s) tb zn := FI.congr (fun q g k => by rw [y q (by omega)]) (Int.le_refl _) (fun _ _ _ => rfl)
  have SM := c_X1_same (sc := sc) (Γ := Γ') (R := R') (d + 4) (I := I1) (a := a) (b := b) aC (by omega) (by rw [m1]; exact fun i i0 i1 => by have := m2.1 i i0 i1; omega) (by omega) (by omega)
  refine PW.aload_n (pc := 18) dX10_judge_18 rfl ?_
  refine PW.getr (pc := 19) dX10_judge_19 fl_X10_48 (by first | assumption | rfl) (by first | assumption | rfl) ?_
  refine PW.iload_n (pc := 22) dX10_judge_22 rfl ?_
  refine PW.iload_n (pc := 23) dX10_judge_23 rfl ?_
  refine PW.invV0x (pc := 24) dX10_judge_24 mv_X10_194 (SM) (by first | assumption | rfl) rfl rfl (Nat.le_of_ble_eq_true rfl) ?_
  refine PW.if_ne (pc := 27) (tgt := 51) dX10_judge_27 (by decide) (rg_bi _) (fun c_27 => ?_) (fun c_27 => ?_)
  · refine PW.iconst (pc := 51) dX10_judge_51 ?_
    exact PW.ireturn (pc := 52) dX10_judge_52 rfl (by
    refine ⟨?_, rfl, fr I1 y⟩
    unfold eqv
    rw [if_pos (cdec_true.mpr ?_)]
    first
    | exact Or.inl ((m2.2 a b ha.1 ha.2 hb.1 hb.2).mp (bi1 c_27))
    | exact Or.inr (cb1 c_48))
  · refine PW.aload_n (pc := 30) dX10_judge_30 rfl ?_
    refine PW.getr (pc := 31) dX10_judge_31 fl_X10_48 (by first | assumption | rfl) (by first | assumption | rfl) ?_
    refine PW.aload_n (pc := 34) dX10_judge_34 rfl ?_
    refine PW.getr (pc := 35) dX10_judge_35 fl_X10_69 (by first | assumption | rfl) (by first | assumption | rfl) ?_
    refine PW.aload_n (pc := 38) dX10_judge_38 rfl ?_
    refine PW.getr (pc := 39) dX10_judge_39 fl_X10_19 (by first | assumption | rfl) (by first | assumption | rfl) ?_
    refine PW.geti (pc := 42) dX10_judge_42 fl_X10_158 (by decide) (by first | assumption | rfl) ?_
    rw [n6']
    refine PW.invV0x (pc := 45) dX10_judge_45 mv_X10_198 (c_X1_rulesOut _ aC aT m1 (by omega) FI1 m2) (by first | assumption | rfl) rfl rfl (Nat.le_of_ble_eq_true rfl) ?_
    refine PW.if_eq (pc := 48) (tgt := 53) dX10_judge_48 (by decide) (rg_cb _) (fun c_48 => ?_) (fun c_48 => ?_)
    · refine PW.aload_n (pc := 53) dX10_judge_53 rfl ?_
      refine PW.getr (pc := 54) dX10_judge_54 fl_X10_48 (by first | assumption | rfl) (by first | assumption | rfl) ?_
      refine PW.aload_n (pc := 57) dX10_judge_57 rfl ?_
      refine PW.getr (pc := 58) dX10_judge_58 fl_X10_69 (by first | assumption | rfl) (by first | assumption | rfl) ?_
      refine PW.iload_n (pc := 61) dX10_judge_61 rfl ?_
      refine PW.iload_n (pc := 62) dX10_judge_62 rfl ?_
      refine PW.invV0 (pc := 63) dX10_judge_63 mv_X10_202 (c_X1_assume _ aC aT m1 (by rw [y _ (by omega)]; exact hzn) (T5.cg (fun q g1 g2 => y q (by omega))) (by omega) m2 EU (by omega) ha hb) (by first | assumption | rfl) rfl rfl (Nat.le_of_ble_eq_true rfl) ?_
      (rintro v Γ' I2 R' ⟨rfl, rfl, rfl, y2, k1⟩)
      have yy : ∀ q, ¬ (58 ≤ q ∧ q ≤ 61) → I2 q = I q := fun q g => by rw [← y q g]; funext z; exact y2 q z (by omega)
      have n6'' : I2 3 2 = vi (cNow s) := by rw [yy 3 (by omega)]; exact n6
      have FI2 : FactsIs I2 t (cF s) tb zn := FI.congr (fun q g k => by rw [yy q (by omega)]) (Int.le_refl _) (fun _ _ _ => rfl)
      have m1' : I2 58 3 = zn := by rw [y2 58 3 (by omega)]; exact m1
      have hno : ¬ (Cl (UT tb zn) (EQ (cF s) (vi (cNow s))) (tb a) (tb b) ∨ ROut (UT tb zn) (cF s) (vi (cNow s)) (EQ (cF s) (vi (cNow s)))) := fun o => o.elim (fun o => bi0 c_27 ((m2.2 a b ha.1 ha.2 hb.1 hb.2).mpr o)) (fun o => cb0 c_48 o)
      refine PW.aload_n (pc := 66) dX10_judge_66 rfl ?_
      refine PW.getr (pc := 67) dX10_judge_67 fl_X10_48 (by first | assumption | rfl) (by first | assumption | rfl) ?_
      refine PW.aload_n (pc := 70) dX10_judge_70 rfl ?_
      refine PW.getr (pc := 71) dX10_judge_71 fl_X10_69 (by first | assumption | rfl) (by first | assumption | rfl) ?_
      refine PW.aload_n (pc := 74) dX10_judge_74 rfl ?_
      refine PW.getr (pc := 75) dX10_judge_75 fl_X10_19 (by first | assumption | rfl) (by first | assumption | rfl) ?_
      refine PW.geti (pc := 78) dX10_judge_78 fl_X10_158 (by decide) (by first | assumption | rfl) ?_
      rw [n6'']
      refine PW.invV0x (pc := 81) dX10_judge_81 mv_X10_198 (c_X1_rulesOut _ aC aT m1' (by omega) FI2 k1) (by first | assumption | rfl) rfl rfl (Nat.le_of_ble_eq_true rfl) ?_
      refine PW.if_eq (pc := 84) (tgt := 91) dX10_judge_84 (by decide) (rg_cb _) (fun c_84 => ?_) (fun c_84 => ?_)
      · refine PW.iconst (pc := 91) dX10_judge_91 ?_
        exact PW.ireturn (pc := 92) dX10_judge_92 rfl (by
        refine ⟨?_, rfl, fr I2 yy⟩
        unfold eqv
        rw [if_neg (fun o => hno (cdec_true.mp o))]
        first
        | exact congrArg _ (congrArg _ (if_pos (cdec_true.mpr (cb1 c_84))).symm)
        | exact congrArg _ (congrArg _ (if_neg (fun o => cb0 c_84 (cdec_true.mp o))).symm))
      · refine PW.iconst (pc := 87) dX10_judge_87 ?_
        refine PW.goto (pc := 88) (tgt := 92) dX10_judge_88 (by decide) ?_
        exact PW.ireturn (pc := 92) dX10_judge_92 rfl (by
        refine ⟨?_, rfl, fr I2 yy⟩
        unfold eqv
        rw [if_neg (fun o => hno (cdec_true.mp o))]
        first
        | exact congrArg _ (congrArg _ (if_pos (cdec_true.mpr (cb1 c_84))).symm)
        | exact congrArg _ (congrArg _ (if_neg (fun o => cb0 c_84 (cdec_true.mp o))).symm))
    · refine PW.iconst (pc := 51) dX10_judge_51 ?_
      exact PW.ireturn (pc := 52) dX10_judge_52 rfl (by
      refine ⟨?_, rfl, fr I1 y⟩
      unfold eqv
      rw [if_pos (cdec_true.mpr ?_)]
      first
      | exact Or.inl ((m2.2 a b ha.1 ha.2 hb.1 hb.2).mp (bi1 c_27))
      | exact Or.inr (cb1 c_48))
end ACT
