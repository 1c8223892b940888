section RUN
variable {sc : PSc} {Γ : List PTy} {R : PRm}
/-- the terms there are behind a run -/
def UR (U : Tm → Prop) (P : Int → Int) (lag fw w : Int) (n : Nat) (u : Tm) : Prop := (U u ∨ ∃ j : Int, 0 ≤ j ∧ j < n ∧ kd (P j) ≠ 0 ∧ u = plM P j) ∨ ∃ j : Int, 0 ≤ j ∧ j < n ∧ kd (P j) ≠ 0 ∧ u = piM P lag fw w j
/-- a program gone through, PLAIN and PIPED -/
def FlowR (I : PIm) (h f : Nat) (tb : Int → Tm) (P : Int → Int) (lag fw w : Int) (n : Nat) : Prop := Tab I h (I h 5) tb ∧ (∀ r : Int, 0 ≤ r → r < 4 → (0 ≤ I (f + 1) r ∧ I (f + 1) r < I h 5 ∧ tb (I (f + 1) r) = plT P n r) ∧ (0 ≤ I (f + 2) r ∧ I (f + 2) r < I h 5 ∧ tb (I (f + 2) r) = piT P lag fw w n r)) ∧ ∀ k : Int, 0 ≤ k → k < n → I (f + 4) k = St P lag fw w k
set_option maxRecDepth 100000 in
set_option maxHeartbeats 1000000 in
theorem FlowR.of {I0 I1 I2 : PIm} {h f : Nat} {tb0 tb1 tb2 : Int → Tm} {P : Int → Int} {lag fw w : Int} {n : Nat} (A : FlowP I0 I1 h f tb0 tb1 P n) (B : FlowQ I1 I2 h f tb1 tb2 P lag fw w n) (hdj : f + 6 < h ∨ h + 5 < f) : FlowR I2 h f tb2 P lag fw w n ∧ (∀ j, j < I0 h 5 → tb2 j = tb0 j) ∧ (I0 h 5 ≤ I2 h 5 ∧ I2 h 5 ≤ I0 h 5 + 2 * n) ∧ I2 h 6 = I0 h 6 ∧ (∀ q z, ¬ (h ≤ q ∧ q ≤ h + 5) → ¬ (f + 1 ≤ q ∧ q ≤ f + 6) → I2 q z = I0 q z) ∧ ∀ u, UT tb2 (I2 h 5) u ↔ UR (UT tb0 (I0 h 5)) P lag fw w n u := by
  obtain ⟨a1, a2, a3, a4⟩ := A
  obtain ⟨b1, b2, b3, b4, b5⟩ := B
  refine ⟨⟨b1.1, fun r r0 r1 => ?_, fun k k0 k1 => (b4 k k0 k1).1⟩, fun j hj => ?_, ?_, ?_, fun q z g1 g2 => ?_, fun u => ?_⟩
  · obtain ⟨x1, x2, x3⟩ := a4 r r0 r1
    obtain ⟨-, y1, y2, y3⟩ := b5 r r0 r1
    have := b1.2.1
    rw [b3 (f + 1) r (by omega) (by omega)]
    exact ⟨⟨x1, by omega, by rw [b1.2.2.1 _ x2]; exact x3⟩, y1, y2, y3⟩
  · have := a1.2.1
    rw [b1.2.2.1 j (by omega), a1.2.2.1 j hj]
  · have := a1.2.1
    have := b1.2.1
    omega
  · rw [b1.2.2.2.2.2, a1.2.2.2.2.2]
  · rw [b3 q z g1 (by omega), a3 q z g1 (by omega)]
  · rw [UT.grow b1 u, UT.grow a1 u]
    exact Iff.rfl
set_option maxRecDepth 100000 in
set_option maxHeartbeats 1000000 in
theorem FlowR.rg {I : PIm} {h f N : Nat} {tb : Int → Tm} {P : Int → Int} {lag fw w : Int} {n : Nat} (F : FlowR I h f tb P lag fw w n) (hN : I h 5 ≤ N) (h2 : N ≤ 200) : ∀ r : Int, 0 ≤ r → r < 4 → Rg (I (f + 1) r) ∧ Rg (I (f + 2) r) := by
  intro r r0 r1
  obtain ⟨⟨a, b, -⟩, c, d, -⟩ := F.2.1 r r0 r1
  omega
set_option maxRecDepth 100000 in
set_option maxHeartbeats 1000000 in
theorem FlowR.dif {I : PIm} {h f : Nat} {tb : Int → Tm} {P : Int → Int} {lag fw w : Int} {n : Nat} (F : FlowR I h f tb P lag fw w n) : bsum (fun r => decide (I (f + 1) r ≠ I (f + 2) r)) 4 = dif P lag fw w n := by
  refine bsum_congr 4 (fun r r0 r1 => ?_)
  obtain ⟨⟨a, b, c⟩, d, e, g⟩ := F.2.1 r r0 r1
  have hiff : I (f + 1) r ≠ I (f + 2) r ↔ plT P n r ≠ piT P lag fw w n r := by
    rw [← c, ← g]
    exact not_congr ⟨fun q => by rw [q], fun q => F.1.2.2 _ _ a b d e q⟩
  by_cases q : I (f + 1) r ≠ I (f + 2) r
  · rw [decide_eq_true q]
    exact (@decide_eq_true _ (Classical.propDecidable _) (hiff.mp q)).symm
  · rw [decide_eq_false q]
    exact (@decide_eq_false _ (Classical.propDecidable _) (fun w => q (hiff.mpr w))).symm
/-! Breaker: 0 program, 1 terms, 2 flow, 3 pipe, 4 sought -/
def BrkAt (Γ : List PTy) (R : PRm) (b : Nat) : Prop := Γ[b]? = some (.inl 0) ∧ R b 0 = some (b + 1) ∧ R b 1 = some (b + 3) ∧ R b 2 = some (b + 9) ∧ R b 3 = some (b + 16) ∧ Γ[b + 16]? = some (.inl 4) ∧ ProgAt Γ R (b + 1) ∧ TermsAt Γ R (b + 3) 12 ∧ FlowAt Γ R (b + 9)
set_option maxRecDepth 100000 in
set_option maxHeartbeats 1000000 in
theorem c_X0_writeProgram (d : Nat) {I : PIm} {b s : Nat} {num : Int} (B : BrkAt Γ R b) (hs : s ≤ 4) (h0 : 0 ≤ num) (h1 : num ≤ 4096) : PC sc mX0_writeProgram (d + 1) 0 0 [.inr (some b), .inl (s : Int), .inl num] Γ I R (fun v Γ' I' R' => v = none ∧ Γ' = Γ ∧ R' = R ∧ (∀ q z, ¬ (b + 1 ≤ q ∧ q ≤ b + 2) → I' q z = I q z) ∧ ProgOK I' (b + 1) (bP s num) s) := by
  obtain ⟨b0, b1, b2, b3, b4, b5, b6, b7, b8⟩ := id B
  have b6' := b6.1
  have loop : ∀ (N k : Nat) (I1 : PIm) (o : Option PV), s - k = N → k ≤ s → (∀ q z, ¬ (b + 1 ≤ q ∧ q ≤ b + 2) → I1 q z = I q z) → ProgOK I1 (b + 1) (bP s num) k → PW sc mX0_writeProgram (d + 1) 0 0 (fun v Γ' I' R' => v = none ∧ Γ' = Γ ∧ R' = R ∧ (∀ q z, ¬ (b + 1 ≤ q ∧ q ≤ b + 2) → I' q z = I q z) ∧ ProgOK I' (b + 1) (bP s num) s) 9 [some (.inr (some b)), some (.inl (s : Int)), some (.inl num), some (.inl (k : Int)), o] [] Γ I1 R := by
    intro N
    induction N using Nat.strongRecOn with
    | _ N ih =>
      intro k I1 o hN hk fr PK
      by_cases hlt : k < s
      · have hd := dg_rg (s := s) (num := num) (k := (k : Int)) hs h0 (by omega) (by omega) (by omega)
        obtain ⟨q1, q2, -⟩ := bc_of hd.1 hd.2
        refine PW.iload_n (pc := 9) dX0_writeProgram_9 rfl ?_
        refine PW.iload_n (pc := 10) dX0_writeProgram_10 rfl ?_
        refine PW.icmp_ge (pc := 11) (tgt := 62) dX0_writeProgram_11 (by decide) (by first | omega | exact rg_of _) (by first | omega | exact rg_of _) (fun c_11 => ?_) (fun c_11 => ?_)
        · omega
        · refine PW.iload_n (pc := 14) dX0_writeProgram_14 rfl ?_
          refine PW.iconst (pc := 15) dX0_writeProgram_15 ?_
          refine PW.iload_n (pc := 16) dX0_writeProgram_16 rfl ?_
          refine PW.iconst (pc := 17) dX0_writeProgram_17 ?_
          refine PW.isub (pc := 18) dX0_writeProgram_18 ?_
          refine PW.iload_n (pc := 19) dX0_writeProgram_19 rfl ?_
          refine PW.isub (pc := 20) dX0_writeProgram_20 ?_
          refine PW.imul (pc := 21) dX0_writeProgram_21 ?_
          refine PW.ishr (pc := 22) dX0_writeProgram_22 ?_
          refine PW.bipush (pc := 23) dX0_writeProgram_23 (by decide) ?_
          refine PW.iand (pc := 25) dX0_writeProgram_25 ?_
          rw [show pw_and (pw_shr num (3 * ((s : Int) - 1 - (k : Int)))) 7 = dg s num (k : Int) from rfl]
          refine PW.istore (pc := 26) dX0_writeProgram_26 (by decide) ?_
          refine PW.aload_n (pc := 28) dX0_writeProgram_28 rfl ?_
          refine PW.getr (pc := 29) dX0_writeProgram_29 fl_X0_12 (by first | assumption | rfl) (by first | assumption | rfl) ?_
          refine PW.iload_n (pc := 32) dX0_writeProgram_32 rfl ?_
          refine PW.iconst (pc := 33) dX0_writeProgram_33 ?_
          refine PW.iload (pc := 34) dX0_writeProgram_34 rfl ?_
          refine PW.iconst (pc := 36) dX0_writeProgram_36 ?_
          refine PW.ishr (pc := 37) dX0_writeProgram_37 ?_
          refine PW.iconst (pc := 38) dX0_writeProgram_38 ?_
          refine PW.iand (pc := 39) dX0_writeProgram_39 ?_
          refine PW.iload (pc := 40) dX0_writeProgram_40 rfl ?_
          refine PW.iconst (pc := 42) dX0_writeProgram_42 ?_
          refine PW.ishr (pc := 43) dX0_writeProgram_43 ?_
          refine PW.iconst (pc := 44) dX0_writeProgram_44 ?_
          refine PW.iand (pc := 45) dX0_writeProgram_45 ?_
          refine PW.iload (pc := 46) dX0_writeProgram_46 rfl ?_
          refine PW.iconst (pc := 48) dX0_writeProgram_48 ?_
          refine PW.iand (pc := 49) dX0_writeProgram_49 ?_
          refine PW.invS0x (pc := 50) dX0_writeProgram_50 ms_X0_109 (c_X5_codeOf _) rfl rfl (Nat.le_of_ble_eq_true rfl) ?_
          rw [q1]
          refine PW.invV0x (pc := 53) dX0_writeProgram_53 mv_X0_113 (c_X5_set _ b6 (by omega) (by omega) (by rw [PK.1]; omega) (by rw [PK.1]; omega)) (by first | assumption | rfl) rfl rfl (Nat.le_of_ble_eq_true rfl) ?_
          rw [PK.1, if_pos rfl]
          refine PW.iinc (pc := 56) dX0_writeProgram_56 rfl (by decide) ?_
          refine PW.goto (pc := 59) (tgt := 9) dX0_writeProgram_59 (by decide) ?_
          exact ih (s - (k + 1)) (by omega) (k + 1) _ _ rfl (by omega) (fun q z hq => by rw [pw_up_other (by omega), pw_up_other (by omega), fr q z hq]) ⟨by rw [pw_up_self]; omega, by omega, fun k' g0 g1 => by
            by_cases q : k' = (k : Int)
            · rw [q, pw_up_other (by omega), pw_up_self]; exact ⟨rfl, q2⟩
            · rw [pw_up_other (by omega), pw_up_other (by omega)]; exact PK.2.2 k' g0 (by omega)⟩
      · obtain rfl : k = s := by omega
        refine PW.iload_n (pc := 9) dX0_writeProgram_9 rfl ?_
        refine PW.iload_n (pc := 10) dX0_writeProgram_10 rfl ?_
        refine PW.icmp_ge (pc := 11) (tgt := 62) dX0_writeProgram_11 (by decide) (by first | omega | exact rg_of _) (by first | omega | exact rg_of _) (fun c_11 => ?_) (fun c_11 => ?_)
        · exact PW.vreturn (pc := 62) dX0_writeProgram_62 rfl (⟨rfl, rfl, rfl, fr, PK⟩)
        · omega
  refine PC.ofPW (by decide) (Nat.le_of_ble_eq_true rfl) ?_
  refine PW.aload_n (pc := 0) dX0_writeProgram_0 rfl ?_
  refine PW.getr (pc := 1) dX0_writeProgram_1 fl_X0_12 (by first | assumption | rfl) (by first | assumption | rfl) ?_
  refine PW.invV0x (pc := 4) dX0_writeProgram_4 mv_X0_74 (c_X5_forgetAll _ b6') (by first | assumption | rfl) rfl rfl (Nat.le_of_ble_eq_true rfl) ?_
  refine PW.iconst (pc := 7) dX0_writeProgram_7 ?_
  refine PW.istore_n (pc := 8) dX0_writeProgram_8 (by decide) ?_
  exact loop s 0 _ _ (by omega) (by omega) (fun q z hq => pw_up_other (by omega)) ⟨pw_up_self _ _ _ _, by omega, fun k' g0 g1 => by omega⟩
/-- this program breaks the pipe -/
def BF (lag fw w : Int) (s : Nat) (num : Int) : Prop := dif (bP s num) lag fw w s ≠ 0
set_option maxRecDepth 100000 in
set_option maxHeartbeats 1000000 in
theorem shl8 : ∀ s : Fin 5, pw_shl 1 (3 * (s.val : Int)) = 8 ^ s.val := by decide +kernel
set_option maxRecDepth 100000 in
set_option maxHeartbeats 1000000 in
theorem pow8_le {s : Nat} (hs : s ≤ 4) : (8 : Int) ^ s ≤ 4096 ∧ 0 < (8 : Int) ^ s := by
  match s, hs with
  | 0, _ => decide
  | 1, _ => decide
  | 2, _ => decide
  | 3, _ => decide
  | 4, _ => decide
set_option maxRecDepth 100000 in
set_option maxHeartbeats 1000000 in
theorem c_X0_seekOfSize (d : Nat) {I : PIm} {b s : Nat} {lag fw w : Int} (B : BrkAt Γ R b) (hs : s ≤ 4) (hB : Base I (b + 3)) (h6 : I (b + 3) 6 = 4) (hl : I (b + 16) 0 = lag) (hf : I (b + 16) 1 = fw) (hw : I (b + 16) 2 = w) (hl3 : 0 ≤ lag ∧ lag ≤ 3) (hwr : Rg w) :
    PC sc mX0_seekOfSize (d + 5) 0 0 [.inr (some b), .inl (s : Int)] Γ I R (fun v Γ' I' R' => Γ' = Γ ∧ R' = R ∧ (∀ q z, ¬ (b + 1 ≤ q ∧ q ≤ b + 15) → I' q z = I q z) ∧ Base I' (b + 3) ∧ I' (b + 3) 6 = 4 ∧ ((v = some (.inl 1) ∧ ∃ num, 0 ≤ num ∧ num < 8 ^ s ∧ BF lag fw w s num ∧ (∀ x, 0 ≤ x → x < num → ¬ BF lag fw w s x) ∧ ProgOK I' (b + 1) (bP s num) s) ∨ (v = some (.inl 0) ∧ ∀ x, 0 ≤ x → x < 8 ^ s → ¬ BF lag fw w s x))) := by
  obtain ⟨b0, b1, b2, b3, b4, b5, b6, b7, b8⟩ := id B
  have b7' := b7.1
  have b8' := b8.1
  have h8 := pow8_le hs
  have loop : ∀ (N : Nat) (num : Int) (I1 : PIm), (8 ^ s - num).toNat = N → 0 ≤ num → num ≤ 8 ^ s → (∀ q z, ¬ (b + 1 ≤ q ∧ q ≤ b + 15) → I1 q z = I q z) → Base I1 (b + 3) → I1 (b + 3) 6 = 4 → (∀ x, 0 ≤ x → x < num → ¬ BF lag fw w s x) → PW sc mX0_seekOfSize (d + 5) 0 0 (fun v Γ' I' R' => Γ' = Γ ∧ R' = R ∧ (∀ q z, ¬ (b + 1 ≤ q ∧ q ≤ b + 15) → I' q z = I q z) ∧ Base I' (b + 3) ∧ I' (b + 3) 6 = 4 ∧ ((v = some (.inl 1) ∧ ∃ num, 0 ≤ num ∧ num < 8 ^ s ∧ BF lag fw w s num ∧ (∀ x, 0 ≤ x → x < num → ¬ BF lag fw w s x) ∧ ProgOK I' (b + 1) (bP s num) s) ∨ (v = some (.inl 0) ∧ ∀ x, 0 ≤ x → x < 8 ^ s → ¬ BF lag fw w s x))) 8 [some (.inr (some b)), some (.inl (s : Int)), some (.inl (8 ^ s)), some (.inl num)] [] Γ I1 R := by
    intro N
    induction N using Nat.strongRecOn with
    | _ N ih =>
      intro num I1 hN n0 n1 fr BA L6 hno
      by_cases hlt : num < 8 ^ s
      · refine PW.iload_n (pc := 8) dX0_seekOfSize_8 rfl ?_
        refine PW.iload_n (pc := 9) dX0_seekOfSize_9 rfl ?_
        refine PW.icmp_ge (pc := 10) (tgt := 78) dX0_seekOfSize_10 (by decide) (by first | omega | exact rg_of _) (by first | omega | exact rg_of _) (fun c_10 => ?_) (fun c_10 => ?_)
        · omega
        · refine PW.aload_n (pc := 13) dX0_seekOfSize_13 rfl ?_
          refine PW.iload_n (pc := 14) dX0_seekOfSize_14 rfl ?_
          refine PW.iload_n (pc := 15) dX0_seekOfSize_15 rfl ?_
          refine PW.invV0 (pc := 16) dX0_seekOfSize_16 mv_X0_90 (c_X0_writeProgram _ B hs n0 (by omega)) (by first | assumption | rfl) rfl rfl (Nat.le_of_ble_eq_true rfl) ?_
          (rintro v Γ' I2 R' ⟨rfl, rfl, rfl, k1, k2⟩)
          refine PW.aload_n (pc := 19) dX0_seekOfSize_19 rfl ?_
          refine PW.getr (pc := 20) dX0_seekOfSize_20 fl_X0_23 (by first | assumption | rfl) (by first | assumption | rfl) ?_
          refine PW.invV0x (pc := 23) dX0_seekOfSize_23 mv_X0_94 (c_X8_dropPassing _ b7') (by first | assumption | rfl) rfl rfl (Nat.le_of_ble_eq_true rfl) ?_
          refine PW.aload_n (pc := 26) dX0_seekOfSize_26 rfl ?_
          refine PW.getr (pc := 27) dX0_seekOfSize_27 fl_X0_30 (by first | assumption | rfl) (by first | assumption | rfl) ?_
          refine PW.aload_n (pc := 30) dX0_seekOfSize_30 rfl ?_
          refine PW.getr (pc := 31) dX0_seekOfSize_31 fl_X0_12 (by first | assumption | rfl) (by first | assumption | rfl) ?_
          refine PW.aload_n (pc := 34) dX0_seekOfSize_34 rfl ?_
          refine PW.getr (pc := 35) dX0_seekOfSize_35 fl_X0_23 (by first | assumption | rfl) (by first | assumption | rfl) ?_
          rw [show I2 (b + 3) 6 = 4 by rw [k1 _ _ (by omega)]; exact L6]
          generalize hI3 : pw_up I2 (b + 3) 5 4 = I3
          have w3 : ∀ q z, ¬ (q = b + 3 ∧ z = 5) → I3 q z = I2 q z := fun q z g => by rw [← hI3, pw_up_other g]
          have y5 : I3 (b + 3) 5 = 4 := by rw [← hI3, pw_up_self]
          have B3 : Base I3 (b + 3) := BA.congr (fun q a e k => by rw [w3 _ _ (by omega), k1 _ _ (by omega)])
          have P3 : ProgOK I3 (b + 1) (bP s num) s := ⟨by rw [w3 _ _ (by omega)]; exact k2.1, k2.2.1, fun k g0 g1 => by rw [w3 _ _ (by omega)]; exact k2.2.2 k g0 g1⟩
          refine PW.invV0 (pc := 38) dX0_seekOfSize_38 mv_X0_97 (c_X2_goPlain _ b8 b6 b7 (tb0 := tc) (by rw [y5]; exact B3.tab) P3 (by rw [y5]; omega) (by omega) (by omega) (by omega)) (by first | assumption | rfl) rfl rfl (Nat.le_of_ble_eq_true rfl) ?_
          (rintro v Γ' I4 R' ⟨rfl, rfl, rfl, tb4, F4⟩)
          refine PW.aload_n (pc := 41) dX0_seekOfSize_41 rfl ?_
          refine PW.getr (pc := 42) dX0_seekOfSize_42 fl_X0_30 (by first | assumption | rfl) (by first | assumption | rfl) ?_
          refine PW.aload_n (pc := 45) dX0_seekOfSize_45 rfl ?_
          refine PW.getr (pc := 46) dX0_seekOfSize_46 fl_X0_12 (by first | assumption | rfl) (by first | assumption | rfl) ?_
          refine PW.aload_n (pc := 49) dX0_seekOfSize_49 rfl ?_
          refine PW.getr (pc := 50) dX0_seekOfSize_50 fl_X0_37 (by first | assumption | rfl) (by first | assumption | rfl) ?_
          refine PW.aload_n (pc := 53) dX0_seekOfSize_53 rfl ?_
          refine PW.getr (pc := 54) dX0_seekOfSize_54 fl_X0_23 (by first | assumption | rfl) (by first | assumption | rfl) ?_
          have f4 := F4.2.2.1
          have e5 : I4 (b + 3) 5 ≤ 4 + s := by have := F4.2.1; rw [y5] at this; exact this
          have P4 : ProgOK I4 (b + 1) (bP s num) s := ⟨by rw [f4 _ _ (by omega) (by omega)]; exact P3.1, P3.2.1, fun k g0 g1 => by rw [f4 _ _ (by omega) (by omega)]; exact P3.2.2 k g0 g1⟩
          have pipe : ∀ z, I4 (b + 16) z = I (b + 16) z := fun z => by rw [f4 _ _ (by omega) (by omega), w3 _ _ (by omega), k1 _ _ (by omega), fr _ _ (by omega)]
          refine PW.invV0 (pc := 57) dX0_seekOfSize_57 mv_X0_101 (c_X2_goPiped (lag := lag) (fw := fw) (w := w) _ b8 b6 b5 b7 F4.1.1 P4 (by omega) (by rw [pipe]; exact hl) (by rw [pipe]; exact hf) (by rw [pipe]; exact hw) hl3 hwr (by omega) (by omega) (by omega) (by omega) (by omega)) (by first | assumption | rfl) rfl rfl (Nat.le_of_ble_eq_true rfl) ?_
          (rintro v Γ' I5 R' ⟨rfl, rfl, rfl, tb5, F5⟩)
          obtain ⟨FR, -, ⟨-, c3⟩, c4, c5, -⟩ := FlowR.of F4 F5 (by omega)
          have e55 : I5 (b + 3) 5 ≤ (12 : Nat) := by rw [y5] at c3; omega
          have fr5 : ∀ q z, ¬ (b + 1 ≤ q ∧ q ≤ b + 15) → I5 q z = I q z := fun q z g => by rw [c5 _ _ (by omega) (by omega), w3 _ _ (by omega), k1 _ _ (by omega), fr _ _ g]
          have l65 : I5 (b + 3) 6 = 4 := by rw [c4, w3 _ _ (by omega), k1 _ _ (by omega)]; exact L6
          refine PW.aload_n (pc := 60) dX0_seekOfSize_60 rfl ?_
          refine PW.getr (pc := 61) dX0_seekOfSize_61 fl_X0_30 (by first | assumption | rfl) (by first | assumption | rfl) ?_
          refine PW.invV0x (pc := 64) dX0_seekOfSize_64 mv_X0_105 (c_X2_differing _ b8 (FR.rg e55 (by omega))) (by first | assumption | rfl) rfl rfl (Nat.le_of_ble_eq_true rfl) ?_
          rw [FR.dif]
          refine PW.if_eq (pc := 67) (tgt := 72) dX0_seekOfSize_67 (by decide) (by have := bsum_rg (fun r => @decide (plT (bP s num) s r ≠ piT (bP s num) lag fw w s r) (Classical.propDecidable _)) 4; unfold dif; omega) (fun c_67 => ?_) (fun c_67 => ?_)
          · refine PW.iinc (pc := 72) dX0_seekOfSize_72 rfl (by decide) ?_
            refine PW.goto (pc := 75) (tgt := 8) dX0_seekOfSize_75 (by decide) ?_
            exact ih _ (by omega) (num + 1) I5 rfl (by omega) (by omega) fr5 FR.1.base l65 (fun x x0 x1 => by by_cases q : x = num; (· rw [q]; exact fun w => w c_67); (· exact hno x x0 (by omega)))
          · refine PW.iconst (pc := 70) dX0_seekOfSize_70 ?_
            exact PW.zreturn (pc := 71) dX0_seekOfSize_71 rfl (by first | exact Or.inl rfl | exact Or.inr rfl | omega) (⟨rfl, rfl, fr5, FR.1.base, l65, Or.inl ⟨rfl, num, n0, hlt, c_67, hno, by rw [F5.2.2.1 _ _ (by omega) (by omega)]; exact P4.1, P4.2.1, fun k g0 g1 => by rw [F5.2.2.1 _ _ (by omega) (by omega)]; exact P4.2.2 k g0 g1⟩⟩)
      · obtain rfl : num = 8 ^ s := by omega
        refine PW.iload_n (pc := 8) dX0_seekOfSize_8 rfl ?_
        refine PW.iload_n (pc := 9) dX0_seekOfSize_9 rfl ?_
        refine PW.icmp_ge (pc := 10) (tgt := 78) dX0_seekOfSize_10 (by decide) (by first | omega | exact rg_of _) (by first | omega | exact rg_of _) (fun c_10 => ?_) (fun c_10 => ?_)
        · refine PW.iconst (pc := 78) dX0_seekOfSize_78 ?_
          exact PW.zreturn (pc := 79) dX0_seekOfSize_79 rfl (by first | exact Or.inl rfl | exact Or.inr rfl | omega) (⟨rfl, rfl, fr, BA, L6, Or.inr ⟨rfl, hno⟩⟩)
        · omega
  have e8 := shl8 ⟨s, by omega⟩
  dsimp only at e8
  refine PC.ofPW (by decide) (Nat.le_of_ble_eq_true rfl) ?_
  refine PW.iconst (pc := 0) dX0_seekOfSize_0 ?_
  refine PW.iconst (pc := 1) dX0_seekOfSize_1 ?_
  refine PW.iload_n (pc := 2) dX0_seekOfSize_2 rfl ?_
  refine PW.imul (pc := 3) dX0_seekOfSize_3 ?_
  refine PW.ishl (pc := 4) dX0_seekOfSize_4 ?_
  rw [e8]
  refine PW.istore_n (pc := 5) dX0_seekOfSize_5 (by decide) ?_
  refine PW.iconst (pc := 6) dX0_seekOfSize_6 ?_
  refine PW.istore_n (pc := 7) dX0_seekOfSize_7 (by decide) ?_
  exact loop _ 0 I rfl (by omega) (by omega) (fun _ _ _ => rfl) hB h6 (fun x x0 x1 => by omega)
/-- the first shortest program that breaks the pipe; none -/
def IsFirst (lag fw w : Int) (s : Nat) (num : Int) : Prop := (1 ≤ s ∧ s ≤ 4) ∧ (0 ≤ num ∧ num < 8 ^ s) ∧ BF lag fw w s num ∧ (∀ x, 0 ≤ x → x < num → ¬ BF lag fw w s x) ∧ ∀ s' : Nat, 1 ≤ s' → s' < s → ∀ x, 0 ≤ x → x < 8 ^ s' → ¬ BF lag fw w s' x
def NoBrk (lag fw w : Int) : Prop := ∀ s' : Nat, 1 ≤ s' → s' ≤ 4 → ∀ x, 0 ≤ x → x < 8 ^ s' → ¬ BF lag fw w s' x
/-- what is kept of a search -/
def BrkIs (I : PIm) (b : Nat) : Prop := Base I (b + 3) ∧ I (b + 3) 6 = 4 ∧ (I (b + 16) 0 = I (b + 16) 0 ∧ Rg (I (b + 16) 0) ∧ Rg (I (b + 16) 1) ∧ Rg (I (b + 16) 2)) ∧ (I b 4 = 0 ∨ (I b 4 = 1 ∧ ((∃ s num, IsFirst (I (b + 16) 0) (I (b + 16) 1) (I (b + 16) 2) s num ∧ ProgOK I (b + 1) (bP s num) s) ∨ (NoBrk (I (b + 16) 0) (I (b + 16) 1) (I (b + 16) 2) ∧ I (b + 1) 1 = 0))))
set_option maxRecDepth 100000 in
set_option maxHeartbeats 1000000 in
theorem BF_no {lag fw w : Int} {s : Nat} {num : Int} (hl : 0 ≤ lag ∧ lag ≤ 3) (hf : 0 ≤ fw ∧ fw ≤ 7) (h : w = 1 ∨ pw_and fw (pw_shl 1 lag - 1) = pw_shl 1 lag - 1) (hs : s ≤ 4) (n0 : 0 ≤ num) (n1 : num ≤ 4096) : ¬ BF lag fw w s num := fun q => q (dif_hides hl hf h (fun k k0 k1 => (bc_of (dg_rg hs n0 (by omega) k0 k1).1 (dg_rg hs n0 (by omega) k0 k1).2).2.1))
set_option maxRecDepth 100000 in
set_option maxHeartbeats 1000000 in
theorem shl_lag : ∀ l : Fin 4, 0 ≤ pw_shl 1 (l.val : Int) ∧ pw_shl 1 (l.val : Int) ≤ 8 := by decide +kernel
set_option maxRecDepth 100000 in
set_option maxHeartbeats 1000000 in
theorem c_X0_sizeBy (d : Nat) {I : PIm} {b a : Nat} {lag fw w : Int} (B : BrkAt Γ R b) (hK : BrkIs I b) (ha : Γ[a]? = some (.inl 4)) (hda : a < b) (hl : I a 0 = lag) (hf : I a 1 = fw) (hw : I a 2 = w) (hl3 : 0 ≤ lag ∧ lag ≤ 3) (hf7 : 0 ≤ fw ∧ fw ≤ 7) (hw1 : 0 ≤ w ∧ w ≤ 1) :
    PC sc mX0_sizeBy (d + 6) 0 0 [.inr (some b), .inr (some a)] Γ I R (fun v Γ' I' R' => Γ' = Γ ∧ R' = R ∧ (∀ q z, ¬ (b ≤ q ∧ q ≤ b + 16) → I' q z = I q z) ∧ BrkIs I' b ∧ ((∃ (s : Nat) (num : Int), v = some (.inl (s : Int)) ∧ IsFirst lag fw w s num ∧ ProgOK I' (b + 1) (bP s num) s) ∨ (v = some (.inl 0) ∧ NoBrk lag fw w))) := by
  obtain ⟨b0, b1, b2, b3, b4, b5, b6, b7, b8⟩ := id B
  have b6' := b6.1
  obtain ⟨KB, K6, ⟨-, KR0, KR1, KR2⟩, KS⟩ := id hK
  have tail : ∀ (I1 : PIm) (g : Int) (o : Option PV), (∀ q z, ¬ (b ≤ q ∧ q ≤ b + 16) → I1 q z = I q z) → Base I1 (b + 3) → I1 (b + 3) 6 = 4 → I1 (b + 16) 0 = lag → I1 (b + 16) 1 = fw → I1 (b + 16) 2 = w → I1 b 4 = 1 → ((g = 1 ∧ ∃ s num, IsFirst lag fw w s num ∧ ProgOK I1 (b + 1) (bP s num) s) ∨ (g = 0 ∧ NoBrk lag fw w)) → PW sc mX0_sizeBy (d + 6) 0 0 (fun v Γ' I' R' => Γ' = Γ ∧ R' = R ∧ (∀ q z, ¬ (b ≤ q ∧ q ≤ b + 16) → I' q z = I q z) ∧ BrkIs I' b ∧ ((∃ (s : Nat) (num : Int), v = some (.inl (s : Int)) ∧ IsFirst lag fw w s num ∧ ProgOK I' (b + 1) (bP s num) s) ∨ (v = some (.inl 0) ∧ NoBrk lag fw w))) 85 [some (.inr (some b)), some (.inr (some a)), some (.inl g), o] [] Γ I1 R := by
    intro I1 g o fr BA L6 e0 e1 e2 e4 hg
    rcases hg with ⟨rfl, s, num, hF, hP⟩ | ⟨rfl, hN⟩
    · refine PW.iload_n (pc := 85) dX0_sizeBy_85 rfl ?_
      refine PW.if_ne (pc := 86) (tgt := 96) dX0_sizeBy_86 (by decide) (by first | omega | exact rg_of _) (fun c_86 => ?_) (fun c_86 => ?_)
      · refine PW.aload_n (pc := 96) dX0_sizeBy_96 rfl ?_
        refine PW.getr (pc := 97) dX0_sizeBy_97 fl_X0_12 (by first | assumption | rfl) (by first | assumption | rfl) ?_
        refine PW.geti (pc := 100) dX0_sizeBy_100 fl_X0_59 (by decide) (by first | assumption | rfl) ?_
        rw [hP.1]
        exact PW.ireturn (pc := 103) dX0_sizeBy_103 rfl (⟨rfl, rfl, fr, ⟨BA, L6, ⟨rfl, by omega, by omega, by omega⟩, Or.inr ⟨e4, Or.inl ⟨s, num, by rw [e0, e1, e2]; exact hF, hP⟩⟩⟩, Or.inl ⟨s, num, rfl, hF, hP⟩⟩)
      · omega
    · have y : ∀ q z, ¬ (q = b + 1 ∧ z = 1) → pw_up I1 (b + 1) 1 0 q z = I1 q z := fun q z g => pw_up_other g
      refine PW.iload_n (pc := 85) dX0_sizeBy_85 rfl ?_
      refine PW.if_ne (pc := 86) (tgt := 96) dX0_sizeBy_86 (by decide) (by first | omega | exact rg_of _) (fun c_86 => ?_) (fun c_86 => ?_)
      · omega
      · refine PW.aload_n (pc := 89) dX0_sizeBy_89 rfl ?_
        refine PW.getr (pc := 90) dX0_sizeBy_90 fl_X0_12 (by first | assumption | rfl) (by first | assumption | rfl) ?_
        refine PW.invV0x (pc := 93) dX0_sizeBy_93 mv_X0_74 (c_X5_forgetAll _ b6') (by first | assumption | rfl) rfl rfl (Nat.le_of_ble_eq_true rfl) ?_
        refine PW.aload_n (pc := 96) dX0_sizeBy_96 rfl ?_
        refine PW.getr (pc := 97) dX0_sizeBy_97 fl_X0_12 (by first | assumption | rfl) (by first | assumption | rfl) ?_
        refine PW.geti (pc := 100) dX0_sizeBy_100 fl_X0_59 (by decide) (by first | assumption | rfl) ?_
        rw [pw_up_self]
        exact PW.ireturn (pc := 103) dX0_sizeBy_103 rfl (⟨rfl, rfl, fun q z g => by rw [y _ _ (by omega), fr _ _ g], ⟨BA.congr (fun q a e k => y _ _ (by omega)), by rw [y _ _ (by omega)]; exact L6, ⟨rfl, by rw [y _ _ (by omega)]; omega, by rw [y _ _ (by omega)]; omega, by rw [y _ _ (by omega)]; omega⟩, Or.inr ⟨by rw [y _ _ (by omega)]; exact e4, Or.inr ⟨by rw [y _ _ (by omega), y _ _ (by omega), y _ _ (by omega), e0, e1, e2]; exact hN, pw_up_self _ _ _ _⟩⟩⟩, Or.inr ⟨rfl, hN⟩⟩)
  have loop : ∀ (N s : Nat) (I1 : PIm), 5 - s = N → 1 ≤ s → s ≤ 5 → (∀ q z, ¬ (b ≤ q ∧ q ≤ b + 16) → I1 q z = I q z) → Base I1 (b + 3) → I1 (b + 3) 6 = 4 → I1 (b + 16) 0 = lag → I1 (b + 16) 1 = fw → I1 (b + 16) 2 = w → I1 b 4 = 1 → (∀ s' : Nat, 1 ≤ s' → s' < s → ∀ x, 0 ≤ x → x < 8 ^ s' → ¬ BF lag fw w s' x) → PW sc mX0_sizeBy (d + 6) 0 0 (fun v Γ' I' R' => Γ' = Γ ∧ R' = R ∧ (∀ q z, ¬ (b ≤ q ∧ q ≤ b + 16) → I' q z = I q z) ∧ BrkIs I' b ∧ ((∃ (s : Nat) (num : Int), v = some (.inl (s : Int)) ∧ IsFirst lag fw w s num ∧ ProgOK I' (b + 1) (bP s num) s) ∨ (v = some (.inl 0) ∧ NoBrk lag fw w))) 54 [some (.inr (some b)), some (.inr (some a)), some (.inl 0), some (.inl (s : Int))] [] Γ I1 R := by
    intro N
    induction N using Nat.strongRecOn with
    | _ N ih =>
      intro s I1 hN s1 s5 fr BA L6 e0 e1 e2 e4 hno
      by_cases h5 : s ≤ 4
      · have hsh := shl_lag ⟨lag.toNat, by omega⟩
        simp only [Int.toNat_of_nonneg hl3.1] at hsh
        have CH := c_X4_hidesNothing (sc := sc) (Γ := Γ) (R := R) (d + 5) (I := I1) (h := b + 16) b5 (by omega) (by rw [e0]; omega)
        rw [e0, e1, e2] at CH
        by_cases hh : w = 1 ∨ pw_and fw (pw_shl 1 lag - 1) = pw_shl 1 lag - 1
        · rw [bi_pos hh] at CH
          have hNB : NoBrk lag fw w := fun s' g1 g2 x x0 x1 => BF_no hl3 hf7 hh g2 x0 (by have := pow8_le g2; omega)
          refine PW.iload_n (pc := 54) dX0_sizeBy_54 rfl ?_
          refine PW.iconst (pc := 55) dX0_sizeBy_55 ?_
          refine PW.icmp_gt (pc := 56) (tgt := 85) dX0_sizeBy_56 (by decide) (by first | omega | exact rg_of _) (by first | omega | exact rg_of _) (fun c_56 => ?_) (fun c_56 => ?_)
          · omega
          · refine PW.iload_n (pc := 59) dX0_sizeBy_59 rfl ?_
            refine PW.if_ne (pc := 60) (tgt := 85) dX0_sizeBy_60 (by decide) (by first | omega | exact rg_of _) (fun c_60 => ?_) (fun c_60 => ?_)
            · omega
            · refine PW.aload_n (pc := 63) dX0_sizeBy_63 rfl ?_
              refine PW.getr (pc := 64) dX0_sizeBy_64 fl_X0_37 (by first | assumption | rfl) (by first | assumption | rfl) ?_
              refine PW.invV0x (pc := 67) dX0_sizeBy_67 mv_X0_66 (CH) (by first | assumption | rfl) rfl rfl (Nat.le_of_ble_eq_true rfl) ?_
              refine PW.if_ne (pc := 70) (tgt := 85) dX0_sizeBy_70 (by decide) (by first | omega | exact rg_of _) (fun c_70 => ?_) (fun c_70 => ?_)
              · exact tail I1 0 _ fr BA L6 e0 e1 e2 e4 (Or.inr ⟨rfl, hNB⟩)
              · omega
        · rw [bi_neg hh] at CH
          refine PW.iload_n (pc := 54) dX0_sizeBy_54 rfl ?_
          refine PW.iconst (pc := 55) dX0_sizeBy_55 ?_
          refine PW.icmp_gt (pc := 56) (tgt := 85) dX0_sizeBy_56 (by decide) (by first | omega | exact rg_of _) (by first | omega | exact rg_of _) (fun c_56 => ?_) (fun c_56 => ?_)
          · omega
          · refine PW.iload_n (pc := 59) dX0_sizeBy_59 rfl ?_
            refine PW.if_ne (pc := 60) (tgt := 85) dX0_sizeBy_60 (by decide) (by first | omega | exact rg_of _) (fun c_60 => ?_) (fun c_60 => ?_)
            · omega
            · refine PW.aload_n (pc := 63) dX0_sizeBy_63 rfl ?_
              refine PW.getr (pc := 64) dX0_sizeBy_64 fl_X0_37 (by first | assumption | rfl) (by first | assumption | rfl) ?_
              refine PW.invV0x (pc := 67) dX0_sizeBy_67 mv_X0_66 (CH) (by first | assumption | rfl) rfl rfl (Nat.le_of_ble_eq_true rfl) ?_
              refine PW.if_ne (pc := 70) (tgt := 85) dX0_sizeBy_70 (by decide) (by first | omega | exact rg_of _) (fun c_70 => ?_) (fun c_70 => ?_)
              · omega
              · refine PW.aload_n (pc := 73) dX0_sizeBy_73 rfl ?_
                refine PW.iload_n (pc := 74) dX0_sizeBy_74 rfl ?_
                refine PW.invV0 (pc := 75) dX0_sizeBy_75 mv_X0_70 (c_X0_seekOfSize _ B h5 BA L6 e0 e1 e2 hl3 (by omega)) (by first | assumption | rfl) rfl rfl (Nat.le_of_ble_eq_true rfl) ?_
                (rintro v Γ' I' R' ⟨rfl, rfl, k1, k2, k3, (⟨rfl, num, n0, n1, k4, k5, k6⟩ | ⟨rfl, k4⟩)⟩)
                · refine PW.istore_n (pc := 78) dX0_sizeBy_78 (by decide) ?_
                  refine PW.iinc (pc := 79) dX0_sizeBy_79 rfl (by decide) ?_
                  refine PW.goto (pc := 82) (tgt := 54) dX0_sizeBy_82 (by decide) ?_
                  refine PW.iload_n (pc := 54) dX0_sizeBy_54 rfl ?_
                  refine PW.iconst (pc := 55) dX0_sizeBy_55 ?_
                  have T := fun o => tail I' 1 o (fun q z g => by rw [k1 q z (by omega), fr q z g]) k2 k3 (by rw [k1 _ _ (by omega)]; exact e0) (by rw [k1 _ _ (by omega)]; exact e1) (by rw [k1 _ _ (by omega)]; exact e2) (by rw [k1 _ _ (by omega)]; exact e4) (Or.inl ⟨rfl, s, num, ⟨⟨s1, h5⟩, ⟨n0, n1⟩, k4, k5, hno⟩, k6⟩)
                  refine PW.icmp_gt (pc := 56) (tgt := 85) dX0_sizeBy_56 (by decide) (by omega) (by omega) (fun c_56 => ?_) (fun c_56 => ?_)
                  · exact T _
                  · refine PW.iload_n (pc := 59) dX0_sizeBy_59 rfl ?_
                    refine PW.if_ne (pc := 60) (tgt := 85) dX0_sizeBy_60 (by decide) (by omega) (fun c_60 => ?_) (fun c_60 => ?_)
                    · exact T _
                    · omega
                · refine PW.istore_n (pc := 78) dX0_sizeBy_78 (by decide) ?_
                  refine PW.iinc (pc := 79) dX0_sizeBy_79 rfl (by decide) ?_
                  refine PW.goto (pc := 82) (tgt := 54) dX0_sizeBy_82 (by decide) ?_
                  exact ih (5 - (s + 1)) (by omega) (s + 1) I' rfl (by omega) (by omega) (fun q z g => by rw [k1 q z (by omega), fr q z g]) k2 k3 (by rw [k1 _ _ (by omega)]; exact e0) (by rw [k1 _ _ (by omega)]; exact e1) (by rw [k1 _ _ (by omega)]; exact e2) (by rw [k1 _ _ (by omega)]; exact e4) (fun s' g1 g2 => by by_cases q : s' = s; (· rw [q]; exact k4); (· exact hno s' g1 (by omega)))
      · obtain rfl : s = 5 := by omega
        refine PW.iload_n (pc := 54) dX0_sizeBy_54 rfl ?_
        refine PW.iconst (pc := 55) dX0_sizeBy_55 ?_
        refine PW.icmp_gt (pc := 56) (tgt := 85) dX0_sizeBy_56 (by decide) (by first | omega | exact rg_of _) (by first | omega | exact rg_of _) (fun c_56 => ?_) (fun c_56 => ?_)
        · exact tail I1 0 _ fr BA L6 e0 e1 e2 e4 (Or.inr ⟨rfl, fun s' g1 g2 => hno s' g1 (by omega)⟩)
        · omega
  have seek : PW sc mX0_sizeBy (d + 6) 0 0 (fun v Γ' I' R' => Γ' = Γ ∧ R' = R ∧ (∀ q z, ¬ (b ≤ q ∧ q ≤ b + 16) → I' q z = I q z) ∧ BrkIs I' b ∧ ((∃ (s : Nat) (num : Int), v = some (.inl (s : Int)) ∧ IsFirst lag fw w s num ∧ ProgOK I' (b + 1) (bP s num) s) ∨ (v = some (.inl 0) ∧ NoBrk lag fw w))) 37 [some (.inr (some b)), some (.inr (some a)), none, none] [] Γ I R := by
    have y : ∀ q z, q ≠ b + 16 → ¬ (q = b ∧ z = 4) → pw_up (pw_up (pw_up (pw_up I (b + 16) 0 (I a 0)) (b + 16) 1 (I a 1)) (b + 16) 2 (I a 2)) b 4 1 q z = I q z := fun q z g1 g2 => by rw [pw_up_other (by omega), pw_up_other (by omega), pw_up_other (by omega), pw_up_other (by omega)]
    refine PW.aload_n (pc := 37) dX0_sizeBy_37 rfl ?_
    refine PW.getr (pc := 38) dX0_sizeBy_38 fl_X0_37 (by first | assumption | rfl) (by first | assumption | rfl) ?_
    refine PW.aload_n (pc := 41) dX0_sizeBy_41 rfl ?_
    refine PW.invV0x (pc := 42) dX0_sizeBy_42 mv_X0_62 (c_X4_copyFrom _ b5 ha) (by first | assumption | rfl) rfl rfl (Nat.le_of_ble_eq_true rfl) ?_
    refine PW.aload_n (pc := 45) dX0_sizeBy_45 rfl ?_
    refine PW.iconst (pc := 46) dX0_sizeBy_46 ?_
    refine PW.putz (pc := 47) dX0_sizeBy_47 fl_X0_41 (by first | assumption | rfl) (by first | exact Or.inl rfl | exact Or.inr rfl | omega) ?_
    refine PW.iconst (pc := 50) dX0_sizeBy_50 ?_
    refine PW.istore_n (pc := 51) dX0_sizeBy_51 (by decide) ?_
    refine PW.iconst (pc := 52) dX0_sizeBy_52 ?_
    refine PW.istore_n (pc := 53) dX0_sizeBy_53 (by decide) ?_
    exact loop 4 1 _ rfl (by omega) (by omega) (fun q z g => y _ _ (by omega) (by omega)) (KB.congr (fun q a e k => y _ _ (by omega) (by omega))) (by rw [y _ _ (by omega) (by omega)]; exact K6) (by rw [pw_up_other (by omega), pw_up_other (by omega), pw_up_other (by omega), pw_up_self]; exact hl) (by rw [pw_up_other (by omega), pw_up_other (by omega), pw_up_self]; exact hf) (by rw [pw_up_other (by omega), pw_up_self]; exact hw) (pw_up_self _ _ _ _) (fun s' g1 g2 => by omega)
  refine PC.ofPW (by decide) (Nat.le_of_ble_eq_true rfl) ?_
  rcases KS with KS | ⟨KS, KT⟩
  · refine PW.aload_n (pc := 0) dX0_sizeBy_0 rfl ?_
    refine PW.geti (pc := 1) dX0_sizeBy_1 fl_X0_41 (by decide) (by first | assumption | rfl) ?_
    rw [KS]
    refine PW.if_eq (pc := 4) (tgt := 37) dX0_sizeBy_4 (by decide) (by first | omega | exact rg_of _) (fun c_4 => ?_) (fun c_4 => ?_)
    · exact seek
    · omega
  · refine PW.aload_n (pc := 0) dX0_sizeBy_0 rfl ?_
    refine PW.geti (pc := 1) dX0_sizeBy_1 fl_X0_41 (by decide) (by first | assumption | rfl) ?_
    rw [KS]
    refine PW.if_eq (pc := 4) (tgt := 37) dX0_sizeBy_4 (by decide) (by first | omega | exact rg_of _) (fun c_4 => ?_) (fun c_4 => ?_)
    · omega
    · refine PW.aload_n (pc := 7) dX0_sizeBy_7 rfl ?_
      refine PW.getr (pc := 8) dX0_sizeBy_8 fl_X0_37 (by first | assumption | rfl) (by first | assumption | rfl) ?_
      refine PW.aload_n (pc := 11) dX0_sizeBy_11 rfl ?_
      refine PW.geti (pc := 12) dX0_sizeBy_12 fl_X0_45 (by decide) (by first | assumption | rfl) ?_
      refine PW.aload_n (pc := 15) dX0_sizeBy_15 rfl ?_
      refine PW.geti (pc := 16) dX0_sizeBy_16 fl_X0_49 (by decide) (by first | assumption | rfl) ?_
      refine PW.aload_n (pc := 19) dX0_sizeBy_19 rfl ?_
      refine PW.geti (pc := 20) dX0_sizeBy_20 fl_X0_52 (by decide) (by first | assumption | rfl) ?_
      refine PW.invV0x (pc := 23) dX0_sizeBy_23 mv_X0_55 (c_X4_is _ b5 (by omega) (by omega) (by omega) KR0 KR1 KR2) (by first | assumption | rfl) rfl rfl (Nat.le_of_ble_eq_true rfl) ?_
      refine PW.if_eq (pc := 26) (tgt := 37) dX0_sizeBy_26 (by decide) (rg_bi _) (fun c_26 => ?_) (fun c_26 => ?_)
      · exact seek
      · refine PW.aload_n (pc := 29) dX0_sizeBy_29 rfl ?_
        refine PW.getr (pc := 30) dX0_sizeBy_30 fl_X0_12 (by first | assumption | rfl) (by first | assumption | rfl) ?_
        refine PW.geti (pc := 33) dX0_sizeBy_33 fl_X0_59 (by decide) (by first | assumption | rfl) ?_
        exact PW.ireturn (pc := 36) dX0_sizeBy_36 rfl (by
        obtain ⟨q0, q1, q2⟩ := bi1 c_26
        rw [hl] at q0
        rw [hf] at q1
        rw [hw] at q2
        refine ⟨rfl, rfl, fun _ _ _ => rfl, hK, ?_⟩
        rw [q0, q1, q2] at KT
        rcases KT with ⟨s, num, hF, hP⟩ | ⟨hN, h0⟩
        · exact Or.inl ⟨s, num, by rw [hP.1], hF, hP⟩
        · exact Or.inr ⟨by rw [h0], hN⟩)
set_option maxRecDepth 100000 in
set_option maxHeartbeats 1000000 in
theorem c_X0_numberAt (d : Nat) {I : PIm} {b s : Nat} {num k : Int} (B : BrkAt Γ R b) (hs : s ≤ 4) (n0 : 0 ≤ num) (n1 : num ≤ 4096) (hP : ProgOK I (b + 1) (bP s num) s) (k0 : 0 ≤ k) (k1 : k < s) : PC sc mX0_numberAt (d + 2) 0 0 [.inr (some b), .inl k] Γ I R (px (some (.inl (dg s num k))) Γ I R) := by
  obtain ⟨b0, b1, b2, b3, b4, b5, b6, b7, b8⟩ := id B
  have b6' := b6.1
  obtain ⟨P1, P2, P3⟩ := id hP
  obtain ⟨ec, oc⟩ := P3 k k0 k1
  have hd := dg_rg (s := s) (num := num) hs n0 (by omega) k0 k1
  have hb := (bc_of hd.1 hd.2).2.2.2.2.2.2
  have CC := c_X5_codeAt (sc := sc) (Γ := Γ) (R := R) d (I := I) (h := b + 1) (k := k) b6 (by omega) (by omega)
  rw [if_pos (by rw [P1]; omega), ec] at CC
  refine PC.ofPW (by decide) (Nat.le_of_ble_eq_true rfl) ?_
  refine PW.aload_n (pc := 0) dX0_numberAt_0 rfl ?_
  refine PW.getr (pc := 1) dX0_numberAt_1 fl_X0_12 (by first | assumption | rfl) (by first | assumption | rfl) ?_
  refine PW.iload_n (pc := 4) dX0_numberAt_4 rfl ?_
  refine PW.invV0x (pc := 5) dX0_numberAt_5 mv_X0_77 (CC) (by first | assumption | rfl) rfl rfl (Nat.le_of_ble_eq_true rfl) ?_
  refine PW.istore_n (pc := 8) dX0_numberAt_8 (by decide) ?_
  refine PW.iconst (pc := 9) dX0_numberAt_9 ?_
  refine PW.iload_n (pc := 10) dX0_numberAt_10 rfl ?_
  refine PW.invS0x (pc := 11) dX0_numberAt_11 ms_X0_81 (c_dd _ oc) rfl rfl (Nat.le_of_ble_eq_true rfl) ?_
  refine PW.imul (pc := 14) dX0_numberAt_14 ?_
  refine PW.iconst (pc := 15) dX0_numberAt_15 ?_
  refine PW.iload_n (pc := 16) dX0_numberAt_16 rfl ?_
  refine PW.invS0x (pc := 17) dX0_numberAt_17 ms_X0_84 (c_ss _ oc) rfl rfl (Nat.le_of_ble_eq_true rfl) ?_
  refine PW.imul (pc := 20) dX0_numberAt_20 ?_
  refine PW.iadd (pc := 21) dX0_numberAt_21 ?_
  refine PW.iload_n (pc := 22) dX0_numberAt_22 rfl ?_
  refine PW.invS0x (pc := 23) dX0_numberAt_23 ms_X0_87 (c_tt _ oc) rfl rfl (Nat.le_of_ble_eq_true rfl) ?_
  refine PW.iadd (pc := 26) dX0_numberAt_26 ?_
  exact PW.ireturn (pc := 27) dX0_numberAt_27 rfl (by
  have e : 4 * dd (bP s num k) + 2 * ss (bP s num k) + tt (bP s num k) = dg s num k := hb
  rw [e]; exact px_rfl)
end RUN
