section PUB3
variable {sc : PSc} {Γ : List PTy} {R : PRm}
set_option maxRecDepth 100000 in
set_option maxHeartbeats 1000000 in
theorem CAt.cg {R' : PRm} {t sp : Nat} (H : CAt Γ R t sp) (h : ∀ q, q ≠ 8 → q ≠ 58 → R' q = R q) (h58 : ∀ z : Int, z ≠ 3 → R' 58 z = R 58 z) : CAt Γ R' t sp := by
  obtain ⟨⟨c0, c1, c2, c3, c4, c5, c6, c7, c8, c9, c10, c11⟩, ⟨aR, aS, aH, aF, aC, aB, a79⟩, ⟨aT, aSp, tsp⟩, g49, r490, r491, aI0, aI1, g50⟩ := H
  have e0 : R' 0 = R 0 := h 0 (by decide) (by decide)
  have e1 : R' 1 = R 1 := h 1 (by decide) (by decide)
  have e7 : R' 7 = R 7 := h 7 (by decide) (by decide)
  have e49 : R' 49 = R 49 := h 49 (by decide) (by decide)
  have e51 : R' 51 = R 51 := h 51 (by decide) (by decide)
  have e62 : R' 62 = R 62 := h 62 (by decide) (by decide)
  have e63 : R' (62 + 1) = R (62 + 1) := h _ (by decide) (by decide)
  have e65 : R' (62 + 3) = R (62 + 3) := h _ (by decide) (by decide)
  have e71 : R' (62 + 9) = R (62 + 9) := h _ (by decide) (by decide)
  unfold CAt ReadAt HistAt FlowAt ClosAt BrkAt ProgAt TermsAt FlowAt
  unfold ReadAt at aR
  unfold HistAt at aH
  unfold FlowAt at aF
  unfold ClosAt at aC
  unfold BrkAt ProgAt TermsAt FlowAt at aB
  rw [e0, e1, e7, e49, e51, e62, e63, e65, e71, h58 0 (by decide), h58 1 (by decide), h58 2 (by decide)]
  exact ⟨⟨c0, c1, c2, c3, c4, c5, c6, c7, c8, c9, c10, c11⟩, ⟨aR, aS.congr (fun q a b => h q (by omega) (by omega)), aH, aF, aC, aB, a79⟩, ⟨aT.congr (fun q a b => h q (by omega) (by omega)), aSp.congr (fun q a b => h q (by omega) (by omega)), tsp⟩, g49, r490, r491, aI0.congr (fun q a b => h q (by omega) (by omega)), aI1.congr (fun q a b => h q (by omega) (by omega)), g50⟩
set_option maxRecDepth 100000 in
set_option maxHeartbeats 1000000 in
theorem HPos.cg {R' : PRm} {h : Nat} {ps : Int → Nat} (H : HPos Γ R h ps) (he : ∀ q, h + 1 ≤ q → q ≤ h + 41 → R' q = R q) : HPos Γ R' h ps := by
  refine ⟨fun i i0 i1 => ?_, H.2⟩
  obtain ⟨w1, w2, w3, w4⟩ := H.1 i i0 i1
  exact ⟨by rw [he _ (by omega) (by omega)]; exact w1, w2.congr (fun q a b => he q (by omega) (by omega)), w3, w4⟩
/-- what stands behind remember: the setting now as it was -/
def Rem (Γ : List PTy) (s : CS) (I0 I : PIm) (R0 R : PRm) (ps : Int → Nat) : Prop := (∀ q, q ≠ 8 → R q = R0 q) ∧ (∀ q z, ¬ (7 ≤ q ∧ q ≤ 48) → I q z = I0 q z) ∧ HPos Γ R 7 ps ∧ HIs I 7 ps (hlen (cNh s)) (hpush (cNh s) (cHs s) (cNow s))
set_option maxRecDepth 100000 in
set_option maxHeartbeats 1000000 in
theorem sPush_rel {I0 I I' : PIm} {R' : PRm} {s : CS} {v : SV} (h : CRel Γ s I0 R) {ps' : Int → Nat} (r : Rem Γ s I0 I R R' ps') (ok : okF s v) (sv : SetIs I' 3 v) (y : ∀ q, ¬ (3 ≤ q ∧ q ≤ 6) → I' q = I q) : (∀ q, 112 ≤ q → I' q = I0 q) ∧ (∀ q, 112 ≤ q → R' q = R q) ∧ CRel Γ (sPush s v) I' R' := by
  obtain ⟨t, sp, ps, tb, hCA, HP, hV⟩ := id h
  obtain ⟨⟨c0, c1, c2, c3, c4, c5, c6, c7, c8, c9, c10, c11⟩, ⟨aR, aS, aH, aF, aC, aB, a79⟩, ⟨aT, aSp, tsp⟩, g49, r490, r491, aI0, aI1, g50⟩ := id hCA
  obtain ⟨vT, vF, vB, ⟨vN, vNo⟩, ⟨vH, vHo⟩, vI, vS, vK⟩ := id hV
  have aR0 := aR.1
  obtain ⟨aS0, aS1, aS2, aS3, aS4⟩ := id aS
  have aS5 := aS4.1
  have aH0 := aH.1
  have aF0 := aF.1
  have aC0 := aC.1
  have aB0 := aB.1
  have aT0 := aT.1
  have aT1 := aT.2.1
  have aT9 := aT.2.2.2.2.2.2.2.2.2.1
  have aT90 := aT9.1
  obtain ⟨vNok, vNoF⟩ := id vNo
  obtain ⟨o1, o2, o3, o4, o5, o6⟩ := id vNok
  obtain ⟨n1, n2, n3, n4, n5, n6⟩ := id vN
  obtain ⟨r1, r2, r3, r4⟩ := r
  have y0 := y
  have y : ∀ q, ¬ (3 ≤ q ∧ q ≤ 48) → I' q = I0 q := fun q g => by rw [y0 q (by omega)]; funext z; exact r2 q z (by omega)
  exact ⟨fun q hq => y q (by omega), fun q hq => r1 q (by omega), t, sp, ps', tb, hCA.cg (fun q a b => r1 q a) (fun z _ => by rw [r1 58 (by decide)]), r3, (vT.congr rfl (fun q g => y q (by omega))), (vF.congr rfl (fun q g => y q (by omega)) (by rw [y (t + 1) (by omega)])), (vB.of (fun q g1 g2 => y q (by omega))), ⟨sv, ok⟩, ⟨r4.cg r3 (fun q a b => y0 q (by omega)), sPush_ok vHo vNo vH.2.1⟩, (vI.congr rfl rfl (fun q g => y q (by omega))), (by unfold CSee; rw [y 0 (by omega)]; exact vS), (vK.congr (fun q g1 g2 => y q (by omega)))⟩
set_option maxRecDepth 100000 in
set_option maxHeartbeats 1000000 in
theorem p_puts (d : Nat) {I : PIm} {s : CS} {k kind a b c : Int} (h : CRel Γ s I R) (hk : Rg k) (h1 : Rg kind) (h2 : Rg a) (h3 : Rg b) (h4 : Rg c) : PC sc mX10_puts (d + 4) 0 0 [.inr (some 0), .inl k, .inl kind, .inl a, .inl b, .inl c] Γ I R (CPo Γ I R (sp_puts s k kind a b c).1 (sp_puts s k kind a b c).2) := by
  obtain ⟨t, sp, ps, tb, hCA, HP, hV⟩ := id h
  obtain ⟨⟨c0, c1, c2, c3, c4, c5, c6, c7, c8, c9, c10, c11⟩, ⟨aR, aS, aH, aF, aC, aB, a79⟩, ⟨aT, aSp, tsp⟩, g49, r490, r491, aI0, aI1, g50⟩ := id hCA
  obtain ⟨vT, vF, vB, ⟨vN, vNo⟩, ⟨vH, vHo⟩, vI, vS, vK⟩ := id hV
  have aR0 := aR.1
  obtain ⟨aS0, aS1, aS2, aS3, aS4⟩ := id aS
  have aS5 := aS4.1
  have aH0 := aH.1
  have aF0 := aF.1
  have aC0 := aC.1
  have aB0 := aB.1
  have aT0 := aT.1
  have aT1 := aT.2.1
  have aT9 := aT.2.2.2.2.2.2.2.2.2.1
  have aT90 := aT9.1
  obtain ⟨vNok, vNoF⟩ := id vNo
  obtain ⟨o1, o2, o3, o4, o5, o6⟩ := id vNok
  obtain ⟨n1, n2, n3, n4, n5, n6⟩ := id vN
  refine PC.ofPW (by decide) (Nat.le_of_ble_eq_true rfl) ?_
  have hn : I 4 1 = (vn (cNow s) : Int) := n1
  have hnn : I (3 + 1) 1 = (vn (cNow s) : Int) := n1
  have hn6 : vn (cNow s) ≤ 6 := o1
  unfold sp_puts
  by_cases q : (0 ≤ k ∧ k ≤ (vn (cNow s) : Int)) ∧ isI kind a b c
  · rw [if_neg (fun w => w q)]
    obtain ⟨q1, q2⟩ := q
    have ec := code_mk (a := kind) (b := a) (c := b) (e := c) (by omega) (by omega) (by omega) (by omega)
    have CA := c_X5_codeAt (sc := sc) (Γ := Γ) (R := R) (I := I) (d + 2) (h := 4) (k := k) aS4 hk (by omega)
    have CO := c_X5_codeOf (sc := sc) (Γ := Γ) (R := R) (I := I) (d + 3) (a := kind) (b := a) (c := b) (e := c)
    rw [ec] at CO
    generalize hcc : 64 * kind + 16 * a + 4 * b + c = cc at *
    have oc : okc cc := by omega
    have hpc : ∀ j : Int, 0 ≤ j → j < vn (cNow s) → Rg (vP (cNow s) j) := fun j j0 j1 => by
      have : okc (vP (cNow s) j) := o2 j j0 j1
      omega
    by_cases qs : k < (vn (cNow s) : Int) ∧ vP (cNow s) k = cc
    · rw [if_pos qs]
      have ex : (if 0 ≤ k ∧ k < I 4 1 ∧ k < 6 then I 5 k else -1) = cc := by rw [if_pos (by omega), ← qs.2]; exact n2 k (by omega) qs.1
      rw [show (4 + 1 : Nat) = 5 by rfl, ex] at CA
      refine PW.iload_n (pc := 0) dX10_puts_0 rfl ?_
      refine PW.if_lt (pc := 1) (tgt := 30) dX10_puts_1 (by decide) (by first | omega | exact rg_of _) (fun c_1 => ?_) (fun c_1 => ?_)
      · omega
      · refine PW.iload_n (pc := 4) dX10_puts_4 rfl ?_
        refine PW.aload_n (pc := 5) dX10_puts_5 rfl ?_
        refine PW.getr (pc := 6) dX10_puts_6 fl_X10_19 (by first | assumption | rfl) (by first | assumption | rfl) ?_
        refine PW.getr (pc := 9) dX10_puts_9 fl_X10_111 (by first | assumption | rfl) (by first | assumption | rfl) ?_
        refine PW.geti (pc := 12) dX10_puts_12 fl_X10_137 (by decide) (by first | assumption | rfl) ?_
        refine PW.icmp_gt (pc := 15) (tgt := 30) dX10_puts_15 (by decide) (by first | omega | exact rg_of _) (by first | omega | exact rg_of _) (fun c_15 => ?_) (fun c_15 => ?_)
        · omega
        · refine PW.iload_n (pc := 18) dX10_puts_18 rfl ?_
          refine PW.iload_n (pc := 19) dX10_puts_19 rfl ?_
          refine PW.iload (pc := 20) dX10_puts_20 rfl ?_
          refine PW.iload (pc := 22) dX10_puts_22 rfl ?_
          refine PW.invS0x (pc := 24) dX10_puts_24 ms_X10_138 (c_X10_isInstruction _ h1 h2 h3 h4) rfl rfl (Nat.le_of_ble_eq_true rfl) ?_
          refine PW.if_ne (pc := 27) (tgt := 32) dX10_puts_27 (by decide) (rg_bi _) (fun c_27 => ?_) (fun c_27 => ?_)
          · refine PW.iload_n (pc := 32) dX10_puts_32 rfl ?_
            refine PW.iload_n (pc := 33) dX10_puts_33 rfl ?_
            refine PW.iload (pc := 34) dX10_puts_34 rfl ?_
            refine PW.iload (pc := 36) dX10_puts_36 rfl ?_
            refine PW.invS0x (pc := 38) dX10_puts_38 ms_X10_142 (CO) rfl rfl (Nat.le_of_ble_eq_true rfl) ?_
            refine PW.istore (pc := 41) dX10_puts_41 (by decide) ?_
            refine PW.aload_n (pc := 43) dX10_puts_43 rfl ?_
            refine PW.getr (pc := 44) dX10_puts_44 fl_X10_19 (by first | assumption | rfl) (by first | assumption | rfl) ?_
            refine PW.getr (pc := 47) dX10_puts_47 fl_X10_111 (by first | assumption | rfl) (by first | assumption | rfl) ?_
            refine PW.iload_n (pc := 50) dX10_puts_50 rfl ?_
            refine PW.invV0x (pc := 51) dX10_puts_51 mv_X10_121 (CA) (by first | assumption | rfl) rfl rfl (Nat.le_of_ble_eq_true rfl) ?_
            refine PW.iload (pc := 54) dX10_puts_54 rfl ?_
            refine PW.icmp_ne (pc := 56) (tgt := 62) dX10_puts_56 (by decide) (by first | omega | exact rg_of _) (by first | omega | exact rg_of _) (fun c_56 => ?_) (fun c_56 => ?_)
            · omega
            · refine PW.bipush (pc := 59) dX10_puts_59 (by decide) ?_
              exact PW.ireturn (pc := 61) dX10_puts_61 rfl (CPo.same h)
          · exact absurd c_27 (by rw [bi_pos q2]; omega)
    · rw [if_neg qs]
      have hne : (if 0 ≤ k ∧ k < I 4 1 ∧ k < 6 then I 5 k else -1) ≠ cc ∧ Rg (if 0 ≤ k ∧ k < I 4 1 ∧ k < 6 then I 5 k else -1) := by
        by_cases e : k < (vn (cNow s) : Int)
        · have e2 : I 5 k = vP (cNow s) k := n2 k q1.1 e
          have e3 := hpc k q1.1 e
          rw [if_pos (by omega), e2]
          exact ⟨fun w => qs ⟨e, w⟩, e3⟩
        · rw [if_neg (by omega)]
          exact ⟨by omega, by omega⟩
      rw [show (4 + 1 : Nat) = 5 by rfl] at CA
      generalize (if 0 ≤ k ∧ k < I 4 1 ∧ k < 6 then I 5 k else -1) = xx at *
      obtain ⟨hne1, hne2⟩ := hne
      by_cases q6 : 6 ≤ k
      · rw [if_pos q6]
        refine PW.iload_n (pc := 0) dX10_puts_0 rfl ?_
        refine PW.if_lt (pc := 1) (tgt := 30) dX10_puts_1 (by decide) (by first | omega | exact rg_of _) (fun c_1 => ?_) (fun c_1 => ?_)
        · omega
        · refine PW.iload_n (pc := 4) dX10_puts_4 rfl ?_
          refine PW.aload_n (pc := 5) dX10_puts_5 rfl ?_
          refine PW.getr (pc := 6) dX10_puts_6 fl_X10_19 (by first | assumption | rfl) (by first | assumption | rfl) ?_
          refine PW.getr (pc := 9) dX10_puts_9 fl_X10_111 (by first | assumption | rfl) (by first | assumption | rfl) ?_
          refine PW.geti (pc := 12) dX10_puts_12 fl_X10_137 (by decide) (by first | assumption | rfl) ?_
          refine PW.icmp_gt (pc := 15) (tgt := 30) dX10_puts_15 (by decide) (by first | omega | exact rg_of _) (by first | omega | exact rg_of _) (fun c_15 => ?_) (fun c_15 => ?_)
          · omega
          · refine PW.iload_n (pc := 18) dX10_puts_18 rfl ?_
            refine PW.iload_n (pc := 19) dX10_puts_19 rfl ?_
            refine PW.iload (pc := 20) dX10_puts_20 rfl ?_
            refine PW.iload (pc := 22) dX10_puts_22 rfl ?_
            refine PW.invS0x (pc := 24) dX10_puts_24 ms_X10_138 (c_X10_isInstruction _ h1 h2 h3 h4) rfl rfl (Nat.le_of_ble_eq_true rfl) ?_
            refine PW.if_ne (pc := 27) (tgt := 32) dX10_puts_27 (by decide) (rg_bi _) (fun c_27 => ?_) (fun c_27 => ?_)
            · refine PW.iload_n (pc := 32) dX10_puts_32 rfl ?_
              refine PW.iload_n (pc := 33) dX10_puts_33 rfl ?_
              refine PW.iload (pc := 34) dX10_puts_34 rfl ?_
              refine PW.iload (pc := 36) dX10_puts_36 rfl ?_
              refine PW.invS0x (pc := 38) dX10_puts_38 ms_X10_142 (CO) rfl rfl (Nat.le_of_ble_eq_true rfl) ?_
              refine PW.istore (pc := 41) dX10_puts_41 (by decide) ?_
              refine PW.aload_n (pc := 43) dX10_puts_43 rfl ?_
              refine PW.getr (pc := 44) dX10_puts_44 fl_X10_19 (by first | assumption | rfl) (by first | assumption | rfl) ?_
              refine PW.getr (pc := 47) dX10_puts_47 fl_X10_111 (by first | assumption | rfl) (by first | assumption | rfl) ?_
              refine PW.iload_n (pc := 50) dX10_puts_50 rfl ?_
              refine PW.invV0x (pc := 51) dX10_puts_51 mv_X10_121 (CA) (by first | assumption | rfl) rfl rfl (Nat.le_of_ble_eq_true rfl) ?_
              refine PW.iload (pc := 54) dX10_puts_54 rfl ?_
              refine PW.icmp_ne (pc := 56) (tgt := 62) dX10_puts_56 (by decide) (by first | omega | exact rg_of _) (by first | omega | exact rg_of _) (fun c_56 => ?_) (fun c_56 => ?_)
              · refine PW.iload_n (pc := 62) dX10_puts_62 rfl ?_
                refine PW.bipush (pc := 63) dX10_puts_63 (by decide) ?_
                refine PW.icmp_lt (pc := 65) (tgt := 71) dX10_puts_65 (by decide) (by first | omega | exact rg_of _) (by first | omega | exact rg_of _) (fun c_65 => ?_) (fun c_65 => ?_)
                · omega
                · refine PW.bipush (pc := 68) dX10_puts_68 (by decide) ?_
                  exact PW.ireturn (pc := 70) dX10_puts_70 rfl (CPo.same h)
              · exact absurd c_56 hne1
            · exact absurd c_27 (by rw [bi_pos q2]; omega)
      · rw [if_neg q6]
        have fin : ∀ (I' : PIm) (R' : PRm) (ps' : Int → Nat), R' 0 1 = some 3 → R' 3 0 = some (3 + 1) → Rem Γ s I I' R R' ps' → ∀ (I2 : PIm) (n2' : Nat), (∀ q, ¬ (3 ≤ q ∧ q ≤ 6) → I2 q = I' q) → I2 4 1 = (n2' : Int) → n2' = (if k = (vn (cNow s) : Int) then vn (cNow s) + 1 else vn (cNow s)) → (∀ j, I2 5 j = if j = k then cc else I' 5 j) → I2 6 = I' 6 → I2 3 = I' 3 → PW sc mX10_puts (d + 4) 0 0 (CPo Γ I R (((if k = (vn (cNow s) : Int) then vn (cNow s) + 1 else vn (cNow s) : Nat) : Int)) (sPush s (fun j => if j = k then cc else vP (cNow s) j, (if k = (vn (cNow s) : Int) then vn (cNow s) + 1 else vn (cNow s)), vl (cNow s), vf (cNow s), vw (cNow s), vi (cNow s)))) 95 [some (.inr (some 0)), some (.inl k), some (.inl kind), some (.inl a), some (.inl b), some (.inl c), some (.inl cc)] [] Γ I2 R' := by
          rintro I' R' ps' w1 w2 ⟨r1, r2, r3, r4⟩ I2 m2 y e1 e2 e3 e4 e5
          rw [← e2]
          have m6 : m2 ≤ 6 := by rw [e2]; split <;> omega
          have P := sPush_rel h (I' := I2) (v := (fun j => if j = k then cc else vP (cNow s) j, m2, vl (cNow s), vf (cNow s), vw (cNow s), vi (cNow s))) ⟨r1, r2, r3, r4⟩ ⟨⟨m6, fun j j0 j1 => by
            dsimp only at j1 ⊢
            by_cases e : j = k
            · rw [if_pos e]; exact oc
            · rw [if_neg e]; exact o2 j j0 (by have : j < (m2 : Int) := j1; show j < (vn (cNow s) : Int); split at e2 <;> omega), o3, o4, o5, o6⟩, vNoF⟩ ⟨e1, fun j j0 j1 => by
            dsimp only at j1 ⊢
            show I2 5 j = _
            rw [e3]
            by_cases e : j = k
            · rw [if_pos e, if_pos e]
            · rw [if_neg e, if_neg e, r2 5 j (by omega)]; exact n2 j j0 (by show j < (vn (cNow s) : Int); split at e2 <;> omega), by show I2 6 0 = _; rw [e4, r2 6 0 (by omega)]; exact n3, by show I2 6 1 = _; rw [e4, r2 6 1 (by omega)]; exact n4, by show I2 6 2 = _; rw [e4, r2 6 2 (by omega)]; exact n5, by show I2 3 2 = _; rw [e5, r2 3 2 (by omega)]; exact n6⟩ y
          refine PW.aload_n (pc := 95) dX10_puts_95 rfl ?_
          refine PW.getr (pc := 96) dX10_puts_96 fl_X10_19 (by first | assumption | rfl) (by first | assumption | rfl) ?_
          refine PW.getr (pc := 99) dX10_puts_99 fl_X10_111 (by first | assumption | rfl) (by first | assumption | rfl) ?_
          refine PW.geti (pc := 102) dX10_puts_102 fl_X10_137 (by decide) (by first | assumption | rfl) ?_
          rw [e1]
          exact PW.ireturn (pc := 105) dX10_puts_105 rfl (⟨rfl, rfl, P⟩)
        refine PW.iload_n (pc := 0) dX10_puts_0 rfl ?_
        refine PW.if_lt (pc := 1) (tgt := 30) dX10_puts_1 (by decide) (by first | omega | exact rg_of _) (fun c_1 => ?_) (fun c_1 => ?_)
        · omega
        · refine PW.iload_n (pc := 4) dX10_puts_4 rfl ?_
          refine PW.aload_n (pc := 5) dX10_puts_5 rfl ?_
          refine PW.getr (pc := 6) dX10_puts_6 fl_X10_19 (by first | assumption | rfl) (by first | assumption | rfl) ?_
          refine PW.getr (pc := 9) dX10_puts_9 fl_X10_111 (by first | assumption | rfl) (by first | assumption | rfl) ?_
          refine PW.geti (pc := 12) dX10_puts_12 fl_X10_137 (by decide) (by first | assumption | rfl) ?_
          refine PW.icmp_gt (pc := 15) (tgt := 30) dX10_puts_15 (by decide) (by first | omega | exact rg_of _) (by first | omega | exact rg_of _) (fun c_15 => ?_) (fun c_15 => ?_)
          · omega
          · refine PW.iload_n (pc := 18) dX10_puts_18 rfl ?_
            refine PW.iload_n (pc := 19) dX10_puts_19 rfl ?_
            refine PW.iload (pc := 20) dX10_puts_20 rfl ?_
            refine PW.iload (pc := 22) dX10_puts_22 rfl ?_
            refine PW.invS0x (pc := 24) dX10_puts_24 ms_X10_138 (c_X10_isInstruction _ h1 h2 h3 h4) rfl rfl (Nat.le_of_ble_eq_true rfl) ?_
            refine PW.if_ne (pc := 27) (tgt := 32) dX10_puts_27 (by decide) (rg_bi _) (fun c_27 => ?_) (fun c_27 => ?_)
            · refine PW.iload_n (pc := 32) dX10_puts_32 rfl ?_
              refine PW.iload_n (pc := 33) dX10_puts_33 rfl ?_
              refine PW.iload (pc := 34) dX10_puts_34 rfl ?_
              refine PW.iload (pc := 36) dX10_puts_36 rfl ?_
              refine PW.invS0x (pc := 38) dX10_puts_38 ms_X10_142 (CO) rfl rfl (Nat.le_of_ble_eq_true rfl) ?_
              refine PW.istore (pc := 41) dX10_puts_41 (by decide) ?_
              refine PW.aload_n (pc := 43) dX10_puts_43 rfl ?_
              refine PW.getr (pc := 44) dX10_puts_44 fl_X10_19 (by first | assumption | rfl) (by first | assumption | rfl) ?_
              refine PW.getr (pc := 47) dX10_puts_47 fl_X10_111 (by first | assumption | rfl) (by first | assumption | rfl) ?_
              refine PW.iload_n (pc := 50) dX10_puts_50 rfl ?_
              refine PW.invV0x (pc := 51) dX10_puts_51 mv_X10_121 (CA) (by first | assumption | rfl) rfl rfl (Nat.le_of_ble_eq_true rfl) ?_
              refine PW.iload (pc := 54) dX10_puts_54 rfl ?_
              refine PW.icmp_ne (pc := 56) (tgt := 62) dX10_puts_56 (by decide) (by first | omega | exact rg_of _) (by first | omega | exact rg_of _) (fun c_56 => ?_) (fun c_56 => ?_)
              · refine PW.iload_n (pc := 62) dX10_puts_62 rfl ?_
                refine PW.bipush (pc := 63) dX10_puts_63 (by decide) ?_
                refine PW.icmp_lt (pc := 65) (tgt := 71) dX10_puts_65 (by decide) (by first | omega | exact rg_of _) (by first | omega | exact rg_of _) (fun c_65 => ?_) (fun c_65 => ?_)
                · refine PW.aload_n (pc := 71) dX10_puts_71 rfl ?_
                  refine PW.getr (pc := 72) dX10_puts_72 fl_X10_26 (by first | assumption | rfl) (by first | assumption | rfl) ?_
                  refine PW.aload_n (pc := 75) dX10_puts_75 rfl ?_
                  refine PW.getr (pc := 76) dX10_puts_76 fl_X10_19 (by first | assumption | rfl) (by first | assumption | rfl) ?_
                  refine PW.invV0 (pc := 79) dX10_puts_79 mv_X10_146 (c_X3_remember _ aH HP vH aS (by omega) vN vNok) (by first | assumption | rfl) rfl rfl (Nat.le_of_ble_eq_true rfl) ?_
                  (rintro vv Γ' I' R' ⟨rfl, rfl, r1, r2, ps', r3, r4⟩)
                  have w1 : R' 0 1 = some 3 := by rw [r1 0 (by decide)]; exact c2
                  have w2 : R' 3 0 = some (3 + 1) := by rw [r1 3 (by decide)]; exact aS1
                  have w3 : I' (3 + 1) 1 = (vn (cNow s) : Int) := by rw [r2 _ 1 (by omega)]; exact hn
                  have aS4' : ProgAt _ R' (3 + 1) := ⟨aS4.1, by rw [r1 _ (by decide)]; exact aS4.2.1, aS4.2.2⟩
                  refine PW.aload_n (pc := 82) dX10_puts_82 rfl ?_
                  refine PW.getr (pc := 83) dX10_puts_83 fl_X10_19 (by first | assumption | rfl) (by first | assumption | rfl) ?_
                  refine PW.getr (pc := 86) dX10_puts_86 fl_X10_111 (by first | assumption | rfl) (by first | assumption | rfl) ?_
                  refine PW.iload_n (pc := 89) dX10_puts_89 rfl ?_
                  refine PW.iload (pc := 90) dX10_puts_90 rfl ?_
                  refine PW.invV0x (pc := 92) dX10_puts_92 mv_X10_150 (c_X5_set _ aS4' (by omega) (by omega) (by omega) (by omega)) (by first | assumption | rfl) rfl rfl (Nat.le_of_ble_eq_true rfl) ?_
                  rw [w3]
                  by_cases e : k = (vn (cNow s) : Int)
                  · rw [show (if k = (vn (cNow s) : Int) then pw_up (pw_up I' (3 + 1 + 1) k cc) (3 + 1) 1 (k + 1) else pw_up I' (3 + 1 + 1) k cc) = pw_up (pw_up I' (3 + 1 + 1) k cc) (3 + 1) 1 (k + 1) from if_pos e]
                    exact fin I' R' ps' w1 w2 ⟨r1, r2, r3, r4⟩ (pw_up (pw_up I' 5 k cc) 4 1 (k + 1)) (vn (cNow s) + 1) (fun q g => by rw [pw_up_ne q (by omega), pw_up_ne q (by omega)]) (by rw [pw_up_self]; omega) (by rw [if_pos e]) (fun j => by
                      rw [pw_up_other (by omega)]
                      by_cases f : j = k
                      · rw [if_pos f, f]; exact pw_up_self _ _ _ _
                      · rw [if_neg f]; exact pw_up_other (by omega)) (by rw [pw_up_ne 6 (by omega), pw_up_ne 6 (by omega)]) (by rw [pw_up_ne 3 (by omega), pw_up_ne 3 (by omega)])
                  · rw [show (if k = (vn (cNow s) : Int) then pw_up (pw_up I' (3 + 1 + 1) k cc) (3 + 1) 1 (k + 1) else pw_up I' (3 + 1 + 1) k cc) = pw_up I' (3 + 1 + 1) k cc from if_neg e]
                    exact fin I' R' ps' w1 w2 ⟨r1, r2, r3, r4⟩ (pw_up I' 5 k cc) (vn (cNow s)) (fun q g => by rw [pw_up_ne q (by omega)]) (by rw [pw_up_other (by omega)]; exact w3) (by rw [if_neg e]) (fun j => by
                      by_cases f : j = k
                      · rw [if_pos f, f]; exact pw_up_self _ _ _ _
                      · rw [if_neg f]; exact pw_up_other (by omega)) (by rw [pw_up_ne 6 (by omega)]) (by rw [pw_up_ne 3 (by omega)])
                · omega
              · exact absurd c_56 hne1
            · exact absurd c_27 (by rw [bi_pos q2]; omega)
  · rw [if_pos q]
    refine PW.iload_n (pc := 0) dX10_puts_0 rfl ?_
    refine PW.if_lt (pc := 1) (tgt := 30) dX10_puts_1 (by decide) (by first | omega | exact rg_of _) (fun c_1 => ?_) (fun c_1 => ?_)
    · refine PW.iconst (pc := 30) dX10_puts_30 ?_
      exact PW.ireturn (pc := 31) dX10_puts_31 rfl (CPo.same h)
    · refine PW.iload_n (pc := 4) dX10_puts_4 rfl ?_
      refine PW.aload_n (pc := 5) dX10_puts_5 rfl ?_
      refine PW.getr (pc := 6) dX10_puts_6 fl_X10_19 (by first | assumption | rfl) (by first | assumption | rfl) ?_
      refine PW.getr (pc := 9) dX10_puts_9 fl_X10_111 (by first | assumption | rfl) (by first | assumption | rfl) ?_
      refine PW.geti (pc := 12) dX10_puts_12 fl_X10_137 (by decide) (by first | assumption | rfl) ?_
      refine PW.icmp_gt (pc := 15) (tgt := 30) dX10_puts_15 (by decide) (by first | omega | exact rg_of _) (by first | omega | exact rg_of _) (fun c_15 => ?_) (fun c_15 => ?_)
      · refine PW.iconst (pc := 30) dX10_puts_30 ?_
        exact PW.ireturn (pc := 31) dX10_puts_31 rfl (CPo.same h)
      · refine PW.iload_n (pc := 18) dX10_puts_18 rfl ?_
        refine PW.iload_n (pc := 19) dX10_puts_19 rfl ?_
        refine PW.iload (pc := 20) dX10_puts_20 rfl ?_
        refine PW.iload (pc := 22) dX10_puts_22 rfl ?_
        refine PW.invS0x (pc := 24) dX10_puts_24 ms_X10_138 (c_X10_isInstruction _ h1 h2 h3 h4) rfl rfl (Nat.le_of_ble_eq_true rfl) ?_
        refine PW.if_ne (pc := 27) (tgt := 32) dX10_puts_27 (by decide) (rg_bi _) (fun c_27 => ?_) (fun c_27 => ?_)
        · exact absurd ⟨⟨by omega, by omega⟩, bi1 c_27⟩ q
        · refine PW.iconst (pc := 30) dX10_puts_30 ?_
          exact PW.ireturn (pc := 31) dX10_puts_31 rfl (CPo.same h)
set_option maxRecDepth 100000 in
set_option maxHeartbeats 1000000 in
theorem p_leaves (d : Nat) {I : PIm} {s : CS} {f : Int} (h : CRel Γ s I R) (hf : Rg f) : PC sc mX10_leaves (d + 4) 0 0 [.inr (some 0), .inl f] Γ I R (CPo Γ I R (sp_leaves s f).1 (sp_leaves s f).2) := by
  obtain ⟨t, sp, ps, tb, hCA, HP, hV⟩ := id h
  obtain ⟨⟨c0, c1, c2, c3, c4, c5, c6, c7, c8, c9, c10, c11⟩, ⟨aR, aS, aH, aF, aC, aB, a79⟩, ⟨aT, aSp, tsp⟩, g49, r490, r491, aI0, aI1, g50⟩ := id hCA
  obtain ⟨vT, vF, vB, ⟨vN, vNo⟩, ⟨vH, vHo⟩, vI, vS, vK⟩ := id hV
  have aR0 := aR.1
  obtain ⟨aS0, aS1, aS2, aS3, aS4⟩ := id aS
  have aS5 := aS4.1
  have aH0 := aH.1
  have aF0 := aF.1
  have aC0 := aC.1
  have aB0 := aB.1
  have aT0 := aT.1
  have aT1 := aT.2.1
  have aT9 := aT.2.2.2.2.2.2.2.2.2.1
  have aT90 := aT9.1
  obtain ⟨vNok, vNoF⟩ := id vNo
  obtain ⟨o1, o2, o3, o4, o5, o6⟩ := id vNok
  obtain ⟨n1, n2, n3, n4, n5, n6⟩ := id vN
  refine PC.ofPW (by decide) (Nat.le_of_ble_eq_true rfl) ?_
  obtain ⟨f1, f2, f3⟩ := id vF.1
  unfold sp_leaves
  by_cases q : 0 ≤ f ∧ f < ((cF s).1 : Int)
  · rw [if_neg (fun w => w q)]
    obtain ⟨x1, x2, x3⟩ := xor_rg (x := vi (cNow s)) f2 q.1 q.2 o6.1 vNoF o6.2
    have hi : I 3 2 = vi (cNow s) := n6
    refine PW.aload_n (pc := 0) dX10_leaves_0 rfl ?_
    refine PW.getr (pc := 1) dX10_leaves_1 fl_X10_69 (by first | assumption | rfl) (by first | assumption | rfl) ?_
    refine PW.iload_n (pc := 4) dX10_leaves_4 rfl ?_
    refine PW.invV0x (pc := 5) dX10_leaves_5 mv_X10_157 (c_X9_has _ aT hf (by omega)) (by first | assumption | rfl) rfl rfl (Nat.le_of_ble_eq_true rfl) ?_
    refine PW.if_ne (pc := 8) (tgt := 13) dX10_leaves_8 (by decide) (rg_bi _) (fun c_8 => ?_) (fun c_8 => ?_)
    · refine PW.aload_n (pc := 13) dX10_leaves_13 rfl ?_
      refine PW.getr (pc := 14) dX10_leaves_14 fl_X10_26 (by first | assumption | rfl) (by first | assumption | rfl) ?_
      refine PW.aload_n (pc := 17) dX10_leaves_17 rfl ?_
      refine PW.getr (pc := 18) dX10_leaves_18 fl_X10_19 (by first | assumption | rfl) (by first | assumption | rfl) ?_
      refine PW.invV0 (pc := 21) dX10_leaves_21 mv_X10_146 (c_X3_remember _ aH HP vH aS (by omega) vN vNok) (by first | assumption | rfl) rfl rfl (Nat.le_of_ble_eq_true rfl) ?_
      (rintro vv Γ' I' R' ⟨rfl, rfl, r1, r2, ps', r3, r4⟩)
      have w1 : R' 0 1 = some 3 := by rw [r1 0 (by decide)]; exact c2
      have w3 : I' 3 2 = vi (cNow s) := by rw [r2 3 2 (by omega)]; exact hi
      refine PW.aload_n (pc := 24) dX10_leaves_24 rfl ?_
      refine PW.getr (pc := 25) dX10_leaves_25 fl_X10_19 (by first | assumption | rfl) (by first | assumption | rfl) ?_
      refine PW.dup (pc := 28) dX10_leaves_28 ?_
      refine PW.geti (pc := 29) dX10_leaves_29 fl_X10_158 (by decide) (by first | assumption | rfl) ?_
      rw [w3]
      refine PW.iconst (pc := 32) dX10_leaves_32 ?_
      refine PW.iload_n (pc := 33) dX10_leaves_33 rfl ?_
      refine PW.ishl (pc := 34) dX10_leaves_34 ?_
      refine PW.ixor (pc := 35) dX10_leaves_35 ?_
      refine PW.puti (pc := 36) dX10_leaves_36 fl_X10_158 (by first | assumption | rfl) ?_
      refine PW.aload_n (pc := 39) dX10_leaves_39 rfl ?_
      refine PW.getr (pc := 40) dX10_leaves_40 fl_X10_19 (by first | assumption | rfl) (by first | assumption | rfl) ?_
      refine PW.geti (pc := 43) dX10_leaves_43 fl_X10_158 (by decide) (by first | assumption | rfl) ?_
      rw [pw_up_self]
      refine PW.iload_n (pc := 46) dX10_leaves_46 rfl ?_
      refine PW.ishr (pc := 47) dX10_leaves_47 ?_
      refine PW.iconst (pc := 48) dX10_leaves_48 ?_
      refine PW.iand (pc := 49) dX10_leaves_49 ?_
      exact PW.ireturn (pc := 50) dX10_leaves_50 rfl (⟨rfl, rfl, sPush_rel h ⟨r1, r2, r3, r4⟩ ⟨⟨o1, o2, o3, o4, o5, x1, x3⟩, x2⟩ ⟨by rw [pw_up_other (by omega), r2 _ _ (by omega)]; exact n1, fun j j0 j1 => by rw [pw_up_other (by omega), r2 _ _ (by omega)]; exact n2 j j0 j1, by rw [pw_up_other (by omega), r2 _ _ (by omega)]; exact n3, by rw [pw_up_other (by omega), r2 _ _ (by omega)]; exact n4, by rw [pw_up_other (by omega), r2 _ _ (by omega)]; exact n5, pw_up_self _ _ _ _⟩ (fun q g => pw_up_ne q (by omega))⟩)
    · exact absurd c_8 (by rw [bi_pos (by omega)]; omega)
  · rw [if_pos q]
    refine PW.aload_n (pc := 0) dX10_leaves_0 rfl ?_
    refine PW.getr (pc := 1) dX10_leaves_1 fl_X10_69 (by first | assumption | rfl) (by first | assumption | rfl) ?_
    refine PW.iload_n (pc := 4) dX10_leaves_4 rfl ?_
    refine PW.invV0x (pc := 5) dX10_leaves_5 mv_X10_157 (c_X9_has _ aT hf (by omega)) (by first | assumption | rfl) rfl rfl (Nat.le_of_ble_eq_true rfl) ?_
    refine PW.if_ne (pc := 8) (tgt := 13) dX10_leaves_8 (by decide) (rg_bi _) (fun c_8 => ?_) (fun c_8 => ?_)
    · exact absurd (bi1 c_8) (by omega)
    · refine PW.iconst (pc := 11) dX10_leaves_11 ?_
      exact PW.ireturn (pc := 12) dX10_leaves_12 rfl (CPo.same h)
set_option maxRecDepth 100000 in
set_option maxHeartbeats 1000000 in
theorem p_tells (d : Nat) {I : PIm} {s : CS} {l f w : Int} (h : CRel Γ s I R) (hl : Rg l) (hf : Rg f) (hw : Rg w) : PC sc mX10_tells (d + 4) 0 0 [.inr (some 0), .inl l, .inl f, .inl w] Γ I R (CPo Γ I R (sp_tells s l f w).1 (sp_tells s l f w).2) := by
  obtain ⟨t, sp, ps, tb, hCA, HP, hV⟩ := id h
  obtain ⟨⟨c0, c1, c2, c3, c4, c5, c6, c7, c8, c9, c10, c11⟩, ⟨aR, aS, aH, aF, aC, aB, a79⟩, ⟨aT, aSp, tsp⟩, g49, r490, r491, aI0, aI1, g50⟩ := id hCA
  obtain ⟨vT, vF, vB, ⟨vN, vNo⟩, ⟨vH, vHo⟩, vI, vS, vK⟩ := id hV
  have aR0 := aR.1
  obtain ⟨aS0, aS1, aS2, aS3, aS4⟩ := id aS
  have aS5 := aS4.1
  have aH0 := aH.1
  have aF0 := aF.1
  have aC0 := aC.1
  have aB0 := aB.1
  have aT0 := aT.1
  have aT1 := aT.2.1
  have aT9 := aT.2.2.2.2.2.2.2.2.2.1
  have aT90 := aT9.1
  obtain ⟨vNok, vNoF⟩ := id vNo
  obtain ⟨o1, o2, o3, o4, o5, o6⟩ := id vNok
  obtain ⟨n1, n2, n3, n4, n5, n6⟩ := id vN
  refine PC.ofPW (by decide) (Nat.le_of_ble_eq_true rfl) ?_
  have e3 : I 6 0 = vl (cNow s) := n3
  have e4 : I 6 1 = vf (cNow s) := n4
  have e5 : I 6 2 = vw (cNow s) := n5
  have u3 : 0 ≤ vl (cNow s) ∧ vl (cNow s) ≤ 3 := o3
  have u4 : 0 ≤ vf (cNow s) ∧ vf (cNow s) ≤ 7 := o4
  have u5 : 0 ≤ vw (cNow s) ∧ vw (cNow s) ≤ 1 := o5
  unfold sp_tells
  by_cases q : (0 ≤ l ∧ l ≤ 3) ∧ (0 ≤ f ∧ f ≤ 7) ∧ 0 ≤ w ∧ w ≤ 1
  · rw [if_neg (fun z => z q)]
    by_cases e : vl (cNow s) = l ∧ vf (cNow s) = f ∧ vw (cNow s) = w
    · rw [if_pos e]
      refine PW.iload_n (pc := 0) dX10_tells_0 rfl ?_
      refine PW.if_lt (pc := 1) (tgt := 28) dX10_tells_1 (by decide) (by first | omega | exact rg_of _) (fun c_1 => ?_) (fun c_1 => ?_)
      · omega
      · refine PW.iload_n (pc := 4) dX10_tells_4 rfl ?_
        refine PW.iconst (pc := 5) dX10_tells_5 ?_
        refine PW.icmp_gt (pc := 6) (tgt := 28) dX10_tells_6 (by decide) (by first | omega | exact rg_of _) (by first | omega | exact rg_of _) (fun c_6 => ?_) (fun c_6 => ?_)
        · omega
        · refine PW.iload_n (pc := 9) dX10_tells_9 rfl ?_
          refine PW.if_lt (pc := 10) (tgt := 28) dX10_tells_10 (by decide) (by first | omega | exact rg_of _) (fun c_10 => ?_) (fun c_10 => ?_)
          · omega
          · refine PW.iload_n (pc := 13) dX10_tells_13 rfl ?_
            refine PW.bipush (pc := 14) dX10_tells_14 (by decide) ?_
            refine PW.icmp_gt (pc := 16) (tgt := 28) dX10_tells_16 (by decide) (by first | omega | exact rg_of _) (by first | omega | exact rg_of _) (fun c_16 => ?_) (fun c_16 => ?_)
            · omega
            · refine PW.iload_n (pc := 19) dX10_tells_19 rfl ?_
              refine PW.if_lt (pc := 20) (tgt := 28) dX10_tells_20 (by decide) (by first | omega | exact rg_of _) (fun c_20 => ?_) (fun c_20 => ?_)
              · omega
              · refine PW.iload_n (pc := 23) dX10_tells_23 rfl ?_
                refine PW.iconst (pc := 24) dX10_tells_24 ?_
                refine PW.icmp_le (pc := 25) (tgt := 30) dX10_tells_25 (by decide) (by first | omega | exact rg_of _) (by first | omega | exact rg_of _) (fun c_25 => ?_) (fun c_25 => ?_)
                · refine PW.aload_n (pc := 30) dX10_tells_30 rfl ?_
                  refine PW.getr (pc := 31) dX10_tells_31 fl_X10_19 (by first | assumption | rfl) (by first | assumption | rfl) ?_
                  refine PW.getr (pc := 34) dX10_tells_34 fl_X10_161 (by first | assumption | rfl) (by first | assumption | rfl) ?_
                  refine PW.iload_n (pc := 37) dX10_tells_37 rfl ?_
                  refine PW.iload_n (pc := 38) dX10_tells_38 rfl ?_
                  refine PW.iload_n (pc := 39) dX10_tells_39 rfl ?_
                  refine PW.invV0x (pc := 40) dX10_tells_40 mv_X10_164 (c_X4_is _ aS3 hl hf hw (by omega) (by omega) (by omega)) (by first | assumption | rfl) rfl rfl (Nat.le_of_ble_eq_true rfl) ?_
                  refine PW.if_eq (pc := 43) (tgt := 49) dX10_tells_43 (by decide) (rg_bi _) (fun c_43 => ?_) (fun c_43 => ?_)
                  · exact absurd (show I (3 + 3) 0 = l ∧ I (3 + 3) 1 = f ∧ I (3 + 3) 2 = w from ⟨e3.trans e.1, e4.trans e.2.1, e5.trans e.2.2⟩) (bi0 c_43)
                  · refine PW.bipush (pc := 46) dX10_tells_46 (by decide) ?_
                    exact PW.ireturn (pc := 48) dX10_tells_48 rfl (CPo.same h)
                · omega
    · rw [if_neg e]
      refine PW.iload_n (pc := 0) dX10_tells_0 rfl ?_
      refine PW.if_lt (pc := 1) (tgt := 28) dX10_tells_1 (by decide) (by first | omega | exact rg_of _) (fun c_1 => ?_) (fun c_1 => ?_)
      · omega
      · refine PW.iload_n (pc := 4) dX10_tells_4 rfl ?_
        refine PW.iconst (pc := 5) dX10_tells_5 ?_
        refine PW.icmp_gt (pc := 6) (tgt := 28) dX10_tells_6 (by decide) (by first | omega | exact rg_of _) (by first | omega | exact rg_of _) (fun c_6 => ?_) (fun c_6 => ?_)
        · omega
        · refine PW.iload_n (pc := 9) dX10_tells_9 rfl ?_
          refine PW.if_lt (pc := 10) (tgt := 28) dX10_tells_10 (by decide) (by first | omega | exact rg_of _) (fun c_10 => ?_) (fun c_10 => ?_)
          · omega
          · refine PW.iload_n (pc := 13) dX10_tells_13 rfl ?_
            refine PW.bipush (pc := 14) dX10_tells_14 (by decide) ?_
            refine PW.icmp_gt (pc := 16) (tgt := 28) dX10_tells_16 (by decide) (by first | omega | exact rg_of _) (by first | omega | exact rg_of _) (fun c_16 => ?_) (fun c_16 => ?_)
            · omega
            · refine PW.iload_n (pc := 19) dX10_tells_19 rfl ?_
              refine PW.if_lt (pc := 20) (tgt := 28) dX10_tells_20 (by decide) (by first | omega | exact rg_of _) (fun c_20 => ?_) (fun c_20 => ?_)
              · omega
              · refine PW.iload_n (pc := 23) dX10_tells_23 rfl ?_
                refine PW.iconst (pc := 24) dX10_tells_24 ?_
                refine PW.icmp_le (pc := 25) (tgt := 30) dX10_tells_25 (by decide) (by first | omega | exact rg_of _) (by first | omega | exact rg_of _) (fun c_25 => ?_) (fun c_25 => ?_)
                · refine PW.aload_n (pc := 30) dX10_tells_30 rfl ?_
                  refine PW.getr (pc := 31) dX10_tells_31 fl_X10_19 (by first | assumption | rfl) (by first | assumption | rfl) ?_
                  refine PW.getr (pc := 34) dX10_tells_34 fl_X10_161 (by first | assumption | rfl) (by first | assumption | rfl) ?_
                  refine PW.iload_n (pc := 37) dX10_tells_37 rfl ?_
                  refine PW.iload_n (pc := 38) dX10_tells_38 rfl ?_
                  refine PW.iload_n (pc := 39) dX10_tells_39 rfl ?_
                  refine PW.invV0x (pc := 40) dX10_tells_40 mv_X10_164 (c_X4_is _ aS3 hl hf hw (by omega) (by omega) (by omega)) (by first | assumption | rfl) rfl rfl (Nat.le_of_ble_eq_true rfl) ?_
                  refine PW.if_eq (pc := 43) (tgt := 49) dX10_tells_43 (by decide) (rg_bi _) (fun c_43 => ?_) (fun c_43 => ?_)
                  · refine PW.aload_n (pc := 49) dX10_tells_49 rfl ?_
                    refine PW.getr (pc := 50) dX10_tells_50 fl_X10_26 (by first | assumption | rfl) (by first | assumption | rfl) ?_
                    refine PW.aload_n (pc := 53) dX10_tells_53 rfl ?_
                    refine PW.getr (pc := 54) dX10_tells_54 fl_X10_19 (by first | assumption | rfl) (by first | assumption | rfl) ?_
                    refine PW.invV0 (pc := 57) dX10_tells_57 mv_X10_146 (c_X3_remember _ aH HP vH aS (by omega) vN vNok) (by first | assumption | rfl) rfl rfl (Nat.le_of_ble_eq_true rfl) ?_
                    (rintro vv Γ' I' R' ⟨rfl, rfl, r1, r2, ps', r3, r4⟩)
                    have w1 : R' 0 1 = some 3 := by rw [r1 0 (by decide)]; exact c2
                    have w2 : R' 3 1 = some (3 + 3) := by rw [r1 3 (by decide)]; exact aS2
                    refine PW.aload_n (pc := 60) dX10_tells_60 rfl ?_
                    refine PW.getr (pc := 61) dX10_tells_61 fl_X10_19 (by first | assumption | rfl) (by first | assumption | rfl) ?_
                    refine PW.getr (pc := 64) dX10_tells_64 fl_X10_161 (by first | assumption | rfl) (by first | assumption | rfl) ?_
                    refine PW.iload_n (pc := 67) dX10_tells_67 rfl ?_
                    refine PW.iload_n (pc := 68) dX10_tells_68 rfl ?_
                    refine PW.iload_n (pc := 69) dX10_tells_69 rfl ?_
                    refine PW.invV0x (pc := 70) dX10_tells_70 mv_X10_168 (c_X4_set _ aS3) (by first | assumption | rfl) rfl rfl (Nat.le_of_ble_eq_true rfl) ?_
                    refine PW.iconst (pc := 73) dX10_tells_73 ?_
                    exact PW.ireturn (pc := 74) dX10_tells_74 rfl (⟨rfl, rfl, sPush_rel h ⟨r1, r2, r3, r4⟩ ⟨⟨o1, o2, q.1, q.2.1, q.2.2, o6⟩, vNoF⟩ ⟨by rw [pw_up_other (by omega), pw_up_other (by omega), pw_up_other (by omega), r2 _ _ (by omega)]; exact n1, fun j j0 j1 => by rw [pw_up_other (by omega), pw_up_other (by omega), pw_up_other (by omega), r2 _ _ (by omega)]; exact n2 j j0 j1, by rw [pw_up_other (by omega), pw_up_other (by omega), pw_up_self], by rw [pw_up_other (by omega), pw_up_self], by rw [pw_up_self], by rw [pw_up_other (by omega), pw_up_other (by omega), pw_up_other (by omega), r2 _ _ (by omega)]; exact n6⟩ (fun q g => by rw [pw_up_ne q (by omega), pw_up_ne q (by omega), pw_up_ne q (by omega)])⟩)
                  · exact absurd (bi1 c_43) (fun z => e ⟨e3.symm.trans z.1, e4.symm.trans z.2.1, e5.symm.trans z.2.2⟩)
                · omega
  · rw [if_pos q]
    refine PW.iload_n (pc := 0) dX10_tells_0 rfl ?_
    refine PW.if_lt (pc := 1) (tgt := 28) dX10_tells_1 (by decide) (by first | omega | exact rg_of _) (fun c_1 => ?_) (fun c_1 => ?_)
    · refine PW.iconst (pc := 28) dX10_tells_28 ?_
      exact PW.ireturn (pc := 29) dX10_tells_29 rfl (CPo.same h)
    · refine PW.iload_n (pc := 4) dX10_tells_4 rfl ?_
      refine PW.iconst (pc := 5) dX10_tells_5 ?_
      refine PW.icmp_gt (pc := 6) (tgt := 28) dX10_tells_6 (by decide) (by first | omega | exact rg_of _) (by first | omega | exact rg_of _) (fun c_6 => ?_) (fun c_6 => ?_)
      · refine PW.iconst (pc := 28) dX10_tells_28 ?_
        exact PW.ireturn (pc := 29) dX10_tells_29 rfl (CPo.same h)
      · refine PW.iload_n (pc := 9) dX10_tells_9 rfl ?_
        refine PW.if_lt (pc := 10) (tgt := 28) dX10_tells_10 (by decide) (by first | omega | exact rg_of _) (fun c_10 => ?_) (fun c_10 => ?_)
        · refine PW.iconst (pc := 28) dX10_tells_28 ?_
          exact PW.ireturn (pc := 29) dX10_tells_29 rfl (CPo.same h)
        · refine PW.iload_n (pc := 13) dX10_tells_13 rfl ?_
          refine PW.bipush (pc := 14) dX10_tells_14 (by decide) ?_
          refine PW.icmp_gt (pc := 16) (tgt := 28) dX10_tells_16 (by decide) (by first | omega | exact rg_of _) (by first | omega | exact rg_of _) (fun c_16 => ?_) (fun c_16 => ?_)
          · refine PW.iconst (pc := 28) dX10_tells_28 ?_
            exact PW.ireturn (pc := 29) dX10_tells_29 rfl (CPo.same h)
          · refine PW.iload_n (pc := 19) dX10_tells_19 rfl ?_
            refine PW.if_lt (pc := 20) (tgt := 28) dX10_tells_20 (by decide) (by first | omega | exact rg_of _) (fun c_20 => ?_) (fun c_20 => ?_)
            · refine PW.iconst (pc := 28) dX10_tells_28 ?_
              exact PW.ireturn (pc := 29) dX10_tells_29 rfl (CPo.same h)
            · refine PW.iload_n (pc := 23) dX10_tells_23 rfl ?_
              refine PW.iconst (pc := 24) dX10_tells_24 ?_
              refine PW.icmp_le (pc := 25) (tgt := 30) dX10_tells_25 (by decide) (by first | omega | exact rg_of _) (by first | omega | exact rg_of _) (fun c_25 => ?_) (fun c_25 => ?_)
              · omega
              · refine PW.iconst (pc := 28) dX10_tells_28 ?_
                exact PW.ireturn (pc := 29) dX10_tells_29 rfl (CPo.same h)
end PUB3
