section RUN
variable {sc : PSc} {Γ : List PTy} {R : PRm}
/-- the terms there are behind a run -/
def UR (U : Tm → Prop) (P : Int → Int) (lag fw w : Int) (n : Nat) (u : Tm) : Prop := (U u ∨ ∃ j : Int, 0 ≤ j ∧ j < n ∧ kd (P j) ≠ 0 ∧ u = plM P j) ∨ ∃ j : Int, 0 ≤ j ∧ j < n ∧ kd (P j) ≠ 0 ∧ u = piM P lag fw w j
/-- a program gone through, PLAIN and PIPED -/
def FlowR (I : PIm) (h f : Nat) (tb : Int → Tm) (P : Int → Int) (lag fw w : Int) (n : Nat) : Prop := Tab I h (I h 5) tb ∧ (∀ r : Int, 0 ≤ r → r < 4 → (0 ≤ I (f + 1) r ∧ I (f + 1) r < I h 5 ∧ tb (I (f + 1) r) = plT P n r) ∧ (0 ≤ I (f + 2) r ∧ I (f + 2) r < I h 5 ∧ tb (I (f + 2) r) = piT P lag fw w n r)) ∧ ∀ k : Int, 0 ≤ k → k < n → I (f + 4) k = St P lag fw w k
set_option maxRecDepth 100000 in
set_option maxHeartbeats 1000000 in
theorem FlowR.of {I0 I1 I2 : PIm} {h f : Nat} {tb0 tb1 tb2 : Int → Tm} {P : Int → Int} {lag fw w : Int} {n : Nat} (A : FlowP I0 I1 h f tb0 tb1 P n) (B : FlowQ I1 I2 h f tb1 tb2 P lag fw w n) (hdj : f + 6 < h ∨ h + 5 < f) : FlowR I2 h f tb2 P lag fw w n ∧ (∀ j, j < I0 h 5 → tb2 j = tb0 j) ∧ (I0 h 5 ≤ I2 h 5 ∧ I2 h 5 ≤ I0 h 5 + 2 * n) ∧ I2 h 6 = I0 h 6 ∧ (∀ q z, ¬ (h ≤ q ∧ q ≤ h + 5) → ¬ (f + 1 ≤ q ∧ q ≤ f + 6) → I2 q z = I0 q z) ∧ ∀ u, UT tb2 (I2 h 5) u ↔ UR (UT tb0 (I0 h 5)) P lag fw w n u := by
  obtain ⟨a1, a2, a3, a4⟩ := A
  obtain ⟨b1, b2, b3, b4, b5⟩ := B
  refine ⟨⟨b1.1, fun r r0 r1 => ?_, fun k k0 k1 => (b4 k k0 k1).1⟩, fun j hj => ?_, ?_, ?_, fun q z g1 g2 => ?_, fun u => ?_⟩
  · obtain ⟨x1, x2, x3⟩ := a4 r r0 r1
    obtain ⟨-, y1, y2, y3⟩ := b5 r r0 r1
    have := b1.2.1
    rw [b3 (f + 1) r (by omega) (by omega)]
    exact ⟨⟨x1, by omega, by rw [b1.2.2.1 _ x2]; exact x3⟩, y1, y2, y3⟩
  · have := a1.2.1
    rw [b1.2.2.1 j (by omega), a1.2.2.1 j hj]
  · have := a1.2.1
    have := b1.2.1
    omega
  · rw [b1.2.2.2.2.2, a1.2.2.2.2.2]
  · rw [b3 q z g1 (by omega), a3 q z g1 (by omega)]
  · rw [UT.grow b1 u, UT.grow a1 u]
    exact Iff.rfl
set_option maxRecDepth 100000 in
set_option maxHeartbeats 1000000 in
theorem FlowR.rg {I : PIm} {h f N : Nat} {tb : Int → Tm} {P : Int → Int} {lag fw w : Int} {n : Nat} (F : FlowR I h f tb P lag fw w n) (hN : I h 5 ≤ N) (h2 : N ≤ 200) : ∀ r : Int, 0 ≤ r → r < 4 → Rg (I (f + 1) r) ∧ Rg (I (f + 2) r) := by
  intro r r0 r1
  obtain ⟨⟨a, b, -⟩, c, d, -⟩ := F.2.1 r r0 r1
  omega
set_option maxRecDepth 100000 in
set_option maxHeartbeats 1000000 in
theorem FlowR.dif {I : PIm} {h f : Nat} {tb : Int → Tm} {P : Int → Int} {lag fw w : Int} {n : Nat} (F : FlowR I h f tb P lag fw w n) : bsum (fun r => decide (I (f + 1) r ≠ I (f + 2) r)) 4 = dif P lag fw w n := by
  refine bsum_congr 4 (fun r r0 r1 => ?_)
  obtain ⟨⟨a, b, c⟩, d, e, g⟩ := F.2.1 r r0 r1
  have hiff : I (f + 1) r ≠ I (f + 2) r ↔ plT P n r ≠ piT P lag fw w n r := by
    rw [← c, ← g]
    exact not_congr ⟨fun q => by rw [q], fun q => F.1.2.2 _ _ a b d e q⟩
  by_cases q : I (f + 1) r ≠ I (f + 2) r
  · rw [decide_eq_true q]
    exact (@decide_eq_true _ (Classical.propDecidable _) (hiff.mp q)).symm
  · rw [decide_eq_false q]
    exact (@decide_eq_false _ (Classical.propDecidable _) (fun w => q (hiff.mpr w))).symm
/-! Breaker: 0 program, 1 terms, 2 flow, 3 found -/
def BrkAt (Γ : List PTy) (R : PRm) (b : Nat) : Prop := Γ[b]? = some (.inl 0) ∧ R b 0 = some (b + 1) ∧ R b 1 = some (b + 3) ∧ R b 2 = some (b + 9) ∧ R b 3 = some (b + 16) ∧ Γ[b + 16]? = some (.inr (0, 32)) ∧ ProgAt Γ R (b + 1) ∧ TermsAt Γ R (b + 3) 12 ∧ FlowAt Γ R (b + 9)
set_option maxRecDepth 100000 in
set_option maxHeartbeats 1000000 in
theorem c_X0_figureAt (d : Nat) {I : PIm} {s num k : Int} : PC sc mX0_figureAt d 0 0 [.inl s, .inl num, .inl k] Γ I R (px (some (.inl (pw_and (pw_shr num (3 * (s - 1 - k))) 7))) Γ I R) := by
  refine PC.ofPW (by decide) (Nat.le_of_ble_eq_true rfl) ?_
  refine PW.iload_n (pc := 0) dX0_figureAt_0 rfl ?_
  refine PW.iconst (pc := 1) dX0_figureAt_1 ?_
  refine PW.iload_n (pc := 2) dX0_figureAt_2 rfl ?_
  refine PW.iconst (pc := 3) dX0_figureAt_3 ?_
  refine PW.isub (pc := 4) dX0_figureAt_4 ?_
  refine PW.iload_n (pc := 5) dX0_figureAt_5 rfl ?_
  refine PW.isub (pc := 6) dX0_figureAt_6 ?_
  refine PW.imul (pc := 7) dX0_figureAt_7 ?_
  refine PW.ishr (pc := 8) dX0_figureAt_8 ?_
  refine PW.bipush (pc := 9) dX0_figureAt_9 (by decide) ?_
  refine PW.iand (pc := 11) dX0_figureAt_11 ?_
  exact PW.ireturn (pc := 12) dX0_figureAt_12 rfl (px_rfl)
set_option maxRecDepth 100000 in
set_option maxHeartbeats 1000000 in
theorem c_X0_sizeOf (d : Nat) {I : PIm} {v : Int} : PC sc mX0_sizeOf d 0 0 [.inl v] Γ I R (px (some (.inl (pw_shr v 12))) Γ I R) := by
  refine PC.ofPW (by decide) (Nat.le_of_ble_eq_true rfl) ?_
  refine PW.iload_n (pc := 0) dX0_sizeOf_0 rfl ?_
  refine PW.bipush (pc := 1) dX0_sizeOf_1 (by decide) ?_
  refine PW.ishr (pc := 3) dX0_sizeOf_3 ?_
  exact PW.ireturn (pc := 4) dX0_sizeOf_4 rfl (px_rfl)
set_option maxRecDepth 100000 in
set_option maxHeartbeats 1000000 in
theorem c_X0_numberAt (d : Nat) {I : PIm} {v k : Int} : PC sc mX0_numberAt (d + 1) 0 0 [.inl v, .inl k] Γ I R (px (some (.inl (pw_and (pw_shr v (3 * (pw_shr v 12 - 1 - k))) 7))) Γ I R) := by
  refine PC.ofPW (by decide) (Nat.le_of_ble_eq_true rfl) ?_
  refine PW.iload_n (pc := 0) dX0_numberAt_0 rfl ?_
  refine PW.invS0x (pc := 1) dX0_numberAt_1 ms_X0_94 (c_X0_sizeOf _) rfl rfl (Nat.le_of_ble_eq_true rfl) ?_
  refine PW.iload_n (pc := 4) dX0_numberAt_4 rfl ?_
  refine PW.iload_n (pc := 5) dX0_numberAt_5 rfl ?_
  refine PW.invS0x (pc := 6) dX0_numberAt_6 ms_X0_83 (c_X0_figureAt _) rfl rfl (Nat.le_of_ble_eq_true rfl) ?_
  exact PW.ireturn (pc := 9) dX0_numberAt_9 rfl (px_rfl)
set_option maxRecDepth 100000 in
set_option maxHeartbeats 1000000 in
theorem c_X0_writeProgram (d : Nat) {I : PIm} {b s : Nat} {num : Int} (B : BrkAt Γ R b) (hs : s ≤ 4) (h0 : 0 ≤ num) (h1 : num ≤ 4096) : PC sc mX0_writeProgram (d + 1) 0 0 [.inr (some b), .inl (s : Int), .inl num] Γ I R (fun v Γ' I' R' => v = none ∧ Γ' = Γ ∧ R' = R ∧ (∀ q z, ¬ (b + 1 ≤ q ∧ q ≤ b + 2) → I' q z = I q z) ∧ ProgOK I' (b + 1) (bP s num) s) := by
  obtain ⟨b0, b1, b2, b3, b4, b5, b6, b7, b8⟩ := id B
  have b6' := b6.1
  have loop : ∀ (N k : Nat) (I1 : PIm) (o : Option PV), s - k = N → k ≤ s → (∀ q z, ¬ (b + 1 ≤ q ∧ q ≤ b + 2) → I1 q z = I q z) → ProgOK I1 (b + 1) (bP s num) k → PW sc mX0_writeProgram (d + 1) 0 0 (fun v Γ' I' R' => v = none ∧ Γ' = Γ ∧ R' = R ∧ (∀ q z, ¬ (b + 1 ≤ q ∧ q ≤ b + 2) → I' q z = I q z) ∧ ProgOK I' (b + 1) (bP s num) s) 9 [some (.inr (some b)), some (.inl (s : Int)), some (.inl num), some (.inl (k : Int)), o] [] Γ I1 R := by
    intro N
    induction N using Nat.strongRecOn with
    | _ N ih =>
      intro k I1 o hN hk fr PK
      by_cases hlt : k < s
      · have hd := dg_rg (s := s) (num := num) (k := (k : Int)) hs h0 (by omega) (by omega) (by omega)
        obtain ⟨q1, q2, -⟩ := bc_of hd.1 hd.2
        refine PW.iload_n (pc := 9) dX0_writeProgram_9 rfl ?_
        refine PW.iload_n (pc := 10) dX0_writeProgram_10 rfl ?_
        refine PW.icmp_ge (pc := 11) (tgt := 56) dX0_writeProgram_11 (by decide) (by first | omega | exact rg_of _) (by first | omega | exact rg_of _) (fun c_11 => ?_) (fun c_11 => ?_)
        · omega
        · refine PW.iload_n (pc := 14) dX0_writeProgram_14 rfl ?_
          refine PW.iload_n (pc := 15) dX0_writeProgram_15 rfl ?_
          refine PW.iload_n (pc := 16) dX0_writeProgram_16 rfl ?_
          refine PW.invS0x (pc := 17) dX0_writeProgram_17 ms_X0_83 (c_X0_figureAt _) rfl rfl (Nat.le_of_ble_eq_true rfl) ?_
          rw [show pw_and (pw_shr num (3 * ((s : Int) - 1 - (k : Int)))) 7 = dg s num (k : Int) from rfl]
          refine PW.istore (pc := 20) dX0_writeProgram_20 (by decide) ?_
          refine PW.aload_n (pc := 22) dX0_writeProgram_22 rfl ?_
          refine PW.getr (pc := 23) dX0_writeProgram_23 fl_X0_12 (by first | assumption | rfl) (by first | assumption | rfl) ?_
          refine PW.iload_n (pc := 26) dX0_writeProgram_26 rfl ?_
          refine PW.iconst (pc := 27) dX0_writeProgram_27 ?_
          refine PW.iload (pc := 28) dX0_writeProgram_28 rfl ?_
          refine PW.iconst (pc := 30) dX0_writeProgram_30 ?_
          refine PW.ishr (pc := 31) dX0_writeProgram_31 ?_
          refine PW.iconst (pc := 32) dX0_writeProgram_32 ?_
          refine PW.iand (pc := 33) dX0_writeProgram_33 ?_
          refine PW.iload (pc := 34) dX0_writeProgram_34 rfl ?_
          refine PW.iconst (pc := 36) dX0_writeProgram_36 ?_
          refine PW.ishr (pc := 37) dX0_writeProgram_37 ?_
          refine PW.iconst (pc := 38) dX0_writeProgram_38 ?_
          refine PW.iand (pc := 39) dX0_writeProgram_39 ?_
          refine PW.iload (pc := 40) dX0_writeProgram_40 rfl ?_
          refine PW.iconst (pc := 42) dX0_writeProgram_42 ?_
          refine PW.iand (pc := 43) dX0_writeProgram_43 ?_
          refine PW.invS0x (pc := 44) dX0_writeProgram_44 ms_X0_87 (c_X5_codeOf _) rfl rfl (Nat.le_of_ble_eq_true rfl) ?_
          rw [q1]
          refine PW.invV0x (pc := 47) dX0_writeProgram_47 mv_X0_91 (c_X5_set _ b6 (by omega) (by omega) (by rw [PK.1]; omega) (by rw [PK.1]; omega)) (by first | assumption | rfl) rfl rfl (Nat.le_of_ble_eq_true rfl) ?_
          rw [PK.1, if_pos rfl]
          refine PW.iinc (pc := 50) dX0_writeProgram_50 rfl (by decide) ?_
          refine PW.goto (pc := 53) (tgt := 9) dX0_writeProgram_53 (by decide) ?_
          exact ih (s - (k + 1)) (by omega) (k + 1) _ _ rfl (by omega) (fun q z hq => by rw [pw_up_other (by omega), pw_up_other (by omega), fr q z hq]) ⟨by rw [pw_up_self]; omega, by omega, fun k' g0 g1 => by
            by_cases q : k' = (k : Int)
            · rw [q, pw_up_other (by omega), pw_up_self]; exact ⟨rfl, q2⟩
            · rw [pw_up_other (by omega), pw_up_other (by omega)]; exact PK.2.2 k' g0 (by omega)⟩
      · obtain rfl : k = s := by omega
        refine PW.iload_n (pc := 9) dX0_writeProgram_9 rfl ?_
        refine PW.iload_n (pc := 10) dX0_writeProgram_10 rfl ?_
        refine PW.icmp_ge (pc := 11) (tgt := 56) dX0_writeProgram_11 (by decide) (by first | omega | exact rg_of _) (by first | omega | exact rg_of _) (fun c_11 => ?_) (fun c_11 => ?_)
        · exact PW.vreturn (pc := 56) dX0_writeProgram_56 rfl (⟨rfl, rfl, rfl, fr, PK⟩)
        · omega
  refine PC.ofPW (by decide) (Nat.le_of_ble_eq_true rfl) ?_
  refine PW.aload_n (pc := 0) dX0_writeProgram_0 rfl ?_
  refine PW.getr (pc := 1) dX0_writeProgram_1 fl_X0_12 (by first | assumption | rfl) (by first | assumption | rfl) ?_
  refine PW.invV0x (pc := 4) dX0_writeProgram_4 mv_X0_80 (c_X5_forgetAll _ b6') (by first | assumption | rfl) rfl rfl (Nat.le_of_ble_eq_true rfl) ?_
  refine PW.iconst (pc := 7) dX0_writeProgram_7 ?_
  refine PW.istore_n (pc := 8) dX0_writeProgram_8 (by decide) ?_
  exact loop s 0 _ _ (by omega) (by omega) (fun q z hq => pw_up_other (by omega)) ⟨pw_up_self _ _ _ _, by omega, fun k' g0 g1 => by omega⟩
/-- this program breaks the pipe -/
def BF (lag fw w : Int) (s : Nat) (num : Int) : Prop := dif (bP s num) lag fw w s ≠ 0
set_option maxRecDepth 100000 in
set_option maxHeartbeats 1000000 in
theorem shl8 : ∀ s : Fin 5, pw_shl 1 (3 * (s.val : Int)) = 8 ^ s.val := by decide +kernel
set_option maxRecDepth 100000 in
set_option maxHeartbeats 1000000 in
theorem pow8_le {s : Nat} (hs : s ≤ 4) : (8 : Int) ^ s ≤ 4096 ∧ 0 < (8 : Int) ^ s := by
  match s, hs with
  | 0, _ => decide
  | 1, _ => decide
  | 2, _ => decide
  | 3, _ => decide
  | 4, _ => decide
/-- the first shortest program that breaks the pipe; none -/
def IsFirst (lag fw w : Int) (s : Nat) (num : Int) : Prop := (1 ≤ s ∧ s ≤ 4) ∧ (0 ≤ num ∧ num < 8 ^ s) ∧ BF lag fw w s num ∧ (∀ x, 0 ≤ x → x < num → ¬ BF lag fw w s x) ∧ ∀ s' : Nat, 1 ≤ s' → s' < s → ∀ x, 0 ≤ x → x < 8 ^ s' → ¬ BF lag fw w s' x
def NoBrk (lag fw w : Int) : Prop := ∀ s' : Nat, 1 ≤ s' → s' ≤ 4 → ∀ x, 0 ≤ x → x < 8 ^ s' → ¬ BF lag fw w s' x
/-- what a search finds, as one number -/
def FB (lag fw w r : Int) : Prop := (∃ (s : Nat) (num : Int), r = 4096 * (s : Int) + num ∧ IsFirst lag fw w s num) ∨ (r = 0 ∧ NoBrk lag fw w)
set_option maxRecDepth 100000 in
set_option maxHeartbeats 1000000 in
theorem FB.rg {lag fw w r : Int} (h : FB lag fw w r) : 0 ≤ r ∧ r ≤ 20479 := by
  rcases h with ⟨s, num, rfl, h⟩ | ⟨rfl, -⟩
  · have := h.1
    have := h.2.1
    have := (pow8_le (s := s) h.1.2).1
    omega
  · omega
set_option maxRecDepth 100000 in
set_option maxHeartbeats 1000000 in
theorem c_X0_seek (d : Nat) {I : PIm} {b a : Nat} {lag fw w : Int} (B : BrkAt Γ R b) (ha : Γ[a]? = some (.inl 4)) (hda : a < b) (hB : Base I (b + 3)) (h6 : I (b + 3) 6 = 4) (hl : I a 0 = lag) (hf : I a 1 = fw) (hw : I a 2 = w) (hl3 : 0 ≤ lag ∧ lag ≤ 3) (hwr : Rg w) :
    PC sc mX0_seek (d + 5) 0 0 [.inr (some b), .inr (some a)] Γ I R (fun v Γ' I' R' => Γ' = Γ ∧ R' = R ∧ (∀ q z, ¬ (b + 1 ≤ q ∧ q ≤ b + 15) → I' q z = I q z) ∧ Base I' (b + 3) ∧ I' (b + 3) 6 = 4 ∧ ∃ r : Int, v = some (.inl r) ∧ FB lag fw w r) := by
  obtain ⟨b0, b1, b2, b3, b4, b5, b6, b7, b8⟩ := id B
  have b7' := b7.1
  have b8' := b8.1
  have outer : ∀ (N s : Nat) (I0 : PIm) (o1 o2 : Option PV), 5 - s = N → 1 ≤ s → s ≤ 5 → (∀ q z, ¬ (b + 1 ≤ q ∧ q ≤ b + 15) → I0 q z = I q z) → Base I0 (b + 3) → I0 (b + 3) 6 = 4 → (∀ s' : Nat, 1 ≤ s' → s' < s → ∀ x, 0 ≤ x → x < 8 ^ s' → ¬ BF lag fw w s' x) → PW sc mX0_seek (d + 5) 0 0 (fun v Γ' I' R' => Γ' = Γ ∧ R' = R ∧ (∀ q z, ¬ (b + 1 ≤ q ∧ q ≤ b + 15) → I' q z = I q z) ∧ Base I' (b + 3) ∧ I' (b + 3) 6 = 4 ∧ ∃ r : Int, v = some (.inl r) ∧ FB lag fw w r) 2 [some (.inr (some b)), some (.inr (some a)), some (.inl (s : Int)), o1, o2] [] Γ I0 R := by
    intro N
    induction N using Nat.strongRecOn with
    | _ N ihS =>
      intro s I0 o1 o2 hN s1 s5 fr0 BA0 L60 hnoS
      by_cases h5 : s ≤ 4
      · have hs : s ≤ 4 := h5
        have h8 := pow8_le hs
        have e8 := shl8 ⟨s, by omega⟩
        dsimp only at e8
        have loop : ∀ (N : Nat) (num : Int) (I1 : PIm), (8 ^ s - num).toNat = N → 0 ≤ num → num ≤ 8 ^ s → (∀ q z, ¬ (b + 1 ≤ q ∧ q ≤ b + 15) → I1 q z = I q z) → Base I1 (b + 3) → I1 (b + 3) 6 = 4 → (∀ x, 0 ≤ x → x < num → ¬ BF lag fw w s x) → PW sc mX0_seek (d + 5) 0 0 (fun v Γ' I' R' => Γ' = Γ ∧ R' = R ∧ (∀ q z, ¬ (b + 1 ≤ q ∧ q ≤ b + 15) → I' q z = I q z) ∧ Base I' (b + 3) ∧ I' (b + 3) 6 = 4 ∧ ∃ r : Int, v = some (.inl r) ∧ FB lag fw w r) 16 [some (.inr (some b)), some (.inr (some a)), some (.inl (s : Int)), some (.inl (8 ^ s)), some (.inl num)] [] Γ I1 R := by
          intro N
          induction N using Nat.strongRecOn with
          | _ N ih =>
            intro num I1 hN n0 n1 fr BA L6 hno
            by_cases hlt : num < 8 ^ s
            · refine PW.iload (pc := 16) dX0_seek_16 rfl ?_
              refine PW.iload_n (pc := 18) dX0_seek_18 rfl ?_
              refine PW.icmp_ge (pc := 19) (tgt := 91) dX0_seek_19 (by decide) (by first | omega | exact rg_of _) (by first | omega | exact rg_of _) (fun c_19 => ?_) (fun c_19 => ?_)
              · omega
              · refine PW.aload_n (pc := 22) dX0_seek_22 rfl ?_
                refine PW.iload_n (pc := 23) dX0_seek_23 rfl ?_
                refine PW.iload (pc := 24) dX0_seek_24 rfl ?_
                refine PW.invV0 (pc := 26) dX0_seek_26 mv_X0_61 (c_X0_writeProgram _ B hs n0 (by omega)) (by first | assumption | rfl) rfl rfl (Nat.le_of_ble_eq_true rfl) ?_
                (rintro v Γ' I2 R' ⟨rfl, rfl, rfl, k1, k2⟩)
                refine PW.aload_n (pc := 29) dX0_seek_29 rfl ?_
                refine PW.getr (pc := 30) dX0_seek_30 fl_X0_23 (by first | assumption | rfl) (by first | assumption | rfl) ?_
                refine PW.invV0x (pc := 33) dX0_seek_33 mv_X0_65 (c_X8_dropPassing _ b7') (by first | assumption | rfl) rfl rfl (Nat.le_of_ble_eq_true rfl) ?_
                refine PW.aload_n (pc := 36) dX0_seek_36 rfl ?_
                refine PW.getr (pc := 37) dX0_seek_37 fl_X0_30 (by first | assumption | rfl) (by first | assumption | rfl) ?_
                refine PW.aload_n (pc := 40) dX0_seek_40 rfl ?_
                refine PW.getr (pc := 41) dX0_seek_41 fl_X0_12 (by first | assumption | rfl) (by first | assumption | rfl) ?_
                refine PW.aload_n (pc := 44) dX0_seek_44 rfl ?_
                refine PW.getr (pc := 45) dX0_seek_45 fl_X0_23 (by first | assumption | rfl) (by first | assumption | rfl) ?_
                rw [show I2 (b + 3) 6 = 4 by rw [k1 _ _ (by omega)]; exact L6]
                generalize hI3 : pw_up I2 (b + 3) 5 4 = I3
                have w3 : ∀ q z, ¬ (q = b + 3 ∧ z = 5) → I3 q z = I2 q z := fun q z g => by rw [← hI3, pw_up_other g]
                have y5 : I3 (b + 3) 5 = 4 := by rw [← hI3, pw_up_self]
                have B3 : Base I3 (b + 3) := BA.congr (fun q a e k => by rw [w3 _ _ (by omega), k1 _ _ (by omega)])
                have P3 : ProgOK I3 (b + 1) (bP s num) s := ⟨by rw [w3 _ _ (by omega)]; exact k2.1, k2.2.1, fun k g0 g1 => by rw [w3 _ _ (by omega)]; exact k2.2.2 k g0 g1⟩
                refine PW.invV0 (pc := 48) dX0_seek_48 mv_X0_68 (c_X2_goPlain _ b8 b6 b7 (tb0 := tc) (by rw [y5]; exact B3.tab) P3 (by rw [y5]; omega) (by omega) (by omega) (by omega)) (by first | assumption | rfl) rfl rfl (Nat.le_of_ble_eq_true rfl) ?_
                (rintro v Γ' I4 R' ⟨rfl, rfl, rfl, tb4, F4⟩)
                refine PW.aload_n (pc := 51) dX0_seek_51 rfl ?_
                refine PW.getr (pc := 52) dX0_seek_52 fl_X0_30 (by first | assumption | rfl) (by first | assumption | rfl) ?_
                refine PW.aload_n (pc := 55) dX0_seek_55 rfl ?_
                refine PW.getr (pc := 56) dX0_seek_56 fl_X0_12 (by first | assumption | rfl) (by first | assumption | rfl) ?_
                refine PW.aload_n (pc := 59) dX0_seek_59 rfl ?_
                refine PW.aload_n (pc := 60) dX0_seek_60 rfl ?_
                refine PW.getr (pc := 61) dX0_seek_61 fl_X0_23 (by first | assumption | rfl) (by first | assumption | rfl) ?_
                have f4 := F4.2.2.1
                have e5 : I4 (b + 3) 5 ≤ 4 + s := by have := F4.2.1; rw [y5] at this; exact this
                have P4 : ProgOK I4 (b + 1) (bP s num) s := ⟨by rw [f4 _ _ (by omega) (by omega)]; exact P3.1, P3.2.1, fun k g0 g1 => by rw [f4 _ _ (by omega) (by omega)]; exact P3.2.2 k g0 g1⟩
                have pipe : ∀ z, I4 a z = I a z := fun z => by rw [f4 _ _ (by omega) (by omega), w3 _ _ (by omega), k1 _ _ (by omega), fr _ _ (by omega)]
                refine PW.invV0 (pc := 64) dX0_seek_64 mv_X0_72 (c_X2_goPiped (lag := lag) (fw := fw) (w := w) _ b8 b6 ha b7 F4.1.1 P4 (by omega) (by rw [pipe]; exact hl) (by rw [pipe]; exact hf) (by rw [pipe]; exact hw) hl3 hwr (by omega) (by omega) (by omega) (by omega) (by omega)) (by first | assumption | rfl) rfl rfl (Nat.le_of_ble_eq_true rfl) ?_
                (rintro v Γ' I5 R' ⟨rfl, rfl, rfl, tb5, F5⟩)
                obtain ⟨FR, -, ⟨-, c3⟩, c4, c5, -⟩ := FlowR.of F4 F5 (by omega)
                have e55 : I5 (b + 3) 5 ≤ (12 : Nat) := by rw [y5] at c3; omega
                have fr5 : ∀ q z, ¬ (b + 1 ≤ q ∧ q ≤ b + 15) → I5 q z = I q z := fun q z g => by rw [c5 _ _ (by omega) (by omega), w3 _ _ (by omega), k1 _ _ (by omega), fr _ _ g]
                have l65 : I5 (b + 3) 6 = 4 := by rw [c4, w3 _ _ (by omega), k1 _ _ (by omega)]; exact L6
                refine PW.aload_n (pc := 67) dX0_seek_67 rfl ?_
                refine PW.getr (pc := 68) dX0_seek_68 fl_X0_30 (by first | assumption | rfl) (by first | assumption | rfl) ?_
                refine PW.invV0x (pc := 71) dX0_seek_71 mv_X0_76 (c_X2_differing _ b8 (FR.rg e55 (by omega))) (by first | assumption | rfl) rfl rfl (Nat.le_of_ble_eq_true rfl) ?_
                rw [FR.dif]
                refine PW.if_eq (pc := 74) (tgt := 85) dX0_seek_74 (by decide) (by have := bsum_rg (fun r => @decide (plT (bP s num) s r ≠ piT (bP s num) lag fw w s r) (Classical.propDecidable _)) 4; unfold dif; omega) (fun c_74 => ?_) (fun c_74 => ?_)
                · refine PW.iinc (pc := 85) dX0_seek_85 rfl (by decide) ?_
                  refine PW.goto (pc := 88) (tgt := 16) dX0_seek_88 (by decide) ?_
                  exact ih _ (by omega) (num + 1) I5 rfl (by omega) (by omega) fr5 FR.1.base l65 (fun x x0 x1 => by by_cases q : x = num; (· rw [q]; exact fun w => w c_74); (· exact hno x x0 (by omega)))
                · refine PW.iload_n (pc := 77) dX0_seek_77 rfl ?_
                  refine PW.bipush (pc := 78) dX0_seek_78 (by decide) ?_
                  refine PW.ishl (pc := 80) dX0_seek_80 ?_
                  refine PW.iload (pc := 81) dX0_seek_81 rfl ?_
                  refine PW.ior (pc := 83) dX0_seek_83 ?_
                  rw [its_eq hs n0 (by omega)]
                  exact PW.ireturn (pc := 84) dX0_seek_84 rfl (⟨rfl, rfl, fr5, FR.1.base, l65, _, rfl, Or.inl ⟨s, num, rfl, ⟨s1, hs⟩, ⟨n0, hlt⟩, c_74, hno, hnoS⟩⟩)
            · obtain rfl : num = 8 ^ s := by omega
              refine PW.iload (pc := 16) dX0_seek_16 rfl ?_
              refine PW.iload_n (pc := 18) dX0_seek_18 rfl ?_
              refine PW.icmp_ge (pc := 19) (tgt := 91) dX0_seek_19 (by decide) (by first | omega | exact rg_of _) (by first | omega | exact rg_of _) (fun c_19 => ?_) (fun c_19 => ?_)
              · refine PW.iinc (pc := 91) dX0_seek_91 rfl (by decide) ?_
                refine PW.goto (pc := 94) (tgt := 2) dX0_seek_94 (by decide) ?_
                exact ihS (5 - (s + 1)) (by omega) (s + 1) I1 _ _ rfl (by omega) (by omega) fr BA L6 (fun s' g1 g2 => by by_cases q : s' = s; (· rw [q]; exact hno); (· exact hnoS s' g1 (by omega)))
              · omega
        refine PW.iload_n (pc := 2) dX0_seek_2 rfl ?_
        refine PW.iconst (pc := 3) dX0_seek_3 ?_
        refine PW.icmp_gt (pc := 4) (tgt := 97) dX0_seek_4 (by decide) (by first | omega | exact rg_of _) (by first | omega | exact rg_of _) (fun c_4 => ?_) (fun c_4 => ?_)
        · omega
        · refine PW.iconst (pc := 7) dX0_seek_7 ?_
          refine PW.iconst (pc := 8) dX0_seek_8 ?_
          refine PW.iload_n (pc := 9) dX0_seek_9 rfl ?_
          refine PW.imul (pc := 10) dX0_seek_10 ?_
          refine PW.ishl (pc := 11) dX0_seek_11 ?_
          rw [e8]
          refine PW.istore_n (pc := 12) dX0_seek_12 (by decide) ?_
          refine PW.iconst (pc := 13) dX0_seek_13 ?_
          refine PW.istore (pc := 14) dX0_seek_14 (by decide) ?_
          exact loop _ 0 I0 rfl (by omega) (by omega) fr0 BA0 L60 (fun x x0 x1 => by omega)
      · obtain rfl : s = 5 := by omega
        refine PW.iload_n (pc := 2) dX0_seek_2 rfl ?_
        refine PW.iconst (pc := 3) dX0_seek_3 ?_
        refine PW.icmp_gt (pc := 4) (tgt := 97) dX0_seek_4 (by decide) (by first | omega | exact rg_of _) (by first | omega | exact rg_of _) (fun c_4 => ?_) (fun c_4 => ?_)
        · refine PW.iconst (pc := 97) dX0_seek_97 ?_
          exact PW.ireturn (pc := 98) dX0_seek_98 rfl (⟨rfl, rfl, fr0, BA0, L60, _, rfl, Or.inr ⟨rfl, fun s' g1 g2 => hnoS s' g1 (by omega)⟩⟩)
        · omega
  refine PC.ofPW (by decide) (Nat.le_of_ble_eq_true rfl) ?_
  refine PW.iconst (pc := 0) dX0_seek_0 ?_
  refine PW.istore_n (pc := 1) dX0_seek_1 (by decide) ?_
  exact outer 4 1 I _ _ rfl (by omega) (by omega) (fun _ _ _ => rfl) hB h6 (fun s' g1 g2 => by omega)
/-- what is kept of the searches -/
def BrkIs (I : PIm) (b : Nat) : Prop := Base I (b + 3) ∧ I (b + 3) 6 = 4 ∧ ∀ lag fw : Int, (0 ≤ lag ∧ lag ≤ 3) → (0 ≤ fw ∧ fw ≤ 7) → I (b + 16) (lag * 8 + fw) = -1 ∨ FB lag fw 0 (I (b + 16) (lag * 8 + fw))
set_option maxRecDepth 100000 in
set_option maxHeartbeats 1000000 in
theorem BF_no {lag fw w : Int} {s : Nat} {num : Int} (hl : 0 ≤ lag ∧ lag ≤ 3) (hf : 0 ≤ fw ∧ fw ≤ 7) (h : w = 1 ∨ pw_and fw (pw_shl 1 lag - 1) = pw_shl 1 lag - 1) (hs : s ≤ 4) (n0 : 0 ≤ num) (n1 : num ≤ 4096) : ¬ BF lag fw w s num := fun q => q (dif_hides hl hf h (fun k k0 k1 => (bc_of (dg_rg hs n0 (by omega) k0 k1).1 (dg_rg hs n0 (by omega) k0 k1).2).2.1))
set_option maxRecDepth 100000 in
set_option maxHeartbeats 1000000 in
theorem shl_lag : ∀ l : Fin 4, 0 ≤ pw_shl 1 (l.val : Int) ∧ pw_shl 1 (l.val : Int) ≤ 8 := by decide +kernel
set_option maxRecDepth 100000 in
set_option maxHeartbeats 1000000 in
theorem c_X0_programBy (d : Nat) {I : PIm} {b a : Nat} {lag fw w : Int} (B : BrkAt Γ R b) (hK : BrkIs I b) (ha : Γ[a]? = some (.inl 4)) (hda : a < b) (hl : I a 0 = lag) (hf : I a 1 = fw) (hw : I a 2 = w) (hl3 : 0 ≤ lag ∧ lag ≤ 3) (hf7 : 0 ≤ fw ∧ fw ≤ 7) (hw1 : 0 ≤ w ∧ w ≤ 1) :
    PC sc mX0_programBy (d + 6) 0 0 [.inr (some b), .inr (some a)] Γ I R (fun v Γ' I' R' => Γ' = Γ ∧ R' = R ∧ (∀ q z, ¬ (b ≤ q ∧ q ≤ b + 16) → I' q z = I q z) ∧ BrkIs I' b ∧ ∃ r : Int, v = some (.inl r) ∧ FB lag fw w r) := by
  obtain ⟨b0, b1, b2, b3, b4, b5, b6, b7, b8⟩ := id B
  obtain ⟨KB, K6, KF⟩ := id hK
  have hsh := shl_lag ⟨lag.toNat, by omega⟩
  simp only [Int.toNat_of_nonneg hl3.1] at hsh
  have CH := c_X4_hidesNothing (sc := sc) (Γ := Γ) (R := R) (d + 5) (I := I) (h := a) ha (by omega) (by rw [hl]; omega)
  rw [hl, hf, hw] at CH
  refine PC.ofPW (by decide) (Nat.le_of_ble_eq_true rfl) ?_
  by_cases hh : w = 1 ∨ pw_and fw (pw_shl 1 lag - 1) = pw_shl 1 lag - 1
  · rw [bi_pos hh] at CH
    have hNB : NoBrk lag fw w := fun s' g1 g2 x x0 x1 => BF_no hl3 hf7 hh g2 x0 (by have := pow8_le g2; omega)
    refine PW.aload_n (pc := 0) dX0_programBy_0 rfl ?_
    refine PW.geti (pc := 1) dX0_programBy_1 fl_X0_44 (by decide) (by first | assumption | rfl) ?_
    refine PW.bipush (pc := 4) dX0_programBy_4 (by decide) ?_
    refine PW.imul (pc := 6) dX0_programBy_6 ?_
    refine PW.aload_n (pc := 7) dX0_programBy_7 rfl ?_
    refine PW.geti (pc := 8) dX0_programBy_8 fl_X0_50 (by decide) (by first | assumption | rfl) ?_
    refine PW.iadd (pc := 11) dX0_programBy_11 ?_
    rw [hl, hf]
    refine PW.istore_n (pc := 12) dX0_programBy_12 (by decide) ?_
    refine PW.aload_n (pc := 13) dX0_programBy_13 rfl ?_
    refine PW.invV0x (pc := 14) dX0_programBy_14 mv_X0_53 (CH) (by first | assumption | rfl) rfl rfl (Nat.le_of_ble_eq_true rfl) ?_
    refine PW.if_ne (pc := 17) (tgt := 33) dX0_programBy_17 (by decide) (by first | omega | exact rg_of _) (fun c_17 => ?_) (fun c_17 => ?_)
    · refine PW.iconst (pc := 33) dX0_programBy_33 ?_
      exact PW.ireturn (pc := 34) dX0_programBy_34 rfl (⟨rfl, rfl, fun _ _ _ => rfl, hK, _, rfl, Or.inr ⟨rfl, hNB⟩⟩)
    · omega
  · rw [bi_neg hh] at CH
    have hw0 : w ≠ 1 := fun q => hh (Or.inl q)
    have w0 : w = 0 := by omega
    rcases KF lag fw hl3 hf7 with KS | KS
    · refine PW.aload_n (pc := 0) dX0_programBy_0 rfl ?_
      refine PW.geti (pc := 1) dX0_programBy_1 fl_X0_44 (by decide) (by first | assumption | rfl) ?_
      refine PW.bipush (pc := 4) dX0_programBy_4 (by decide) ?_
      refine PW.imul (pc := 6) dX0_programBy_6 ?_
      refine PW.aload_n (pc := 7) dX0_programBy_7 rfl ?_
      refine PW.geti (pc := 8) dX0_programBy_8 fl_X0_50 (by decide) (by first | assumption | rfl) ?_
      refine PW.iadd (pc := 11) dX0_programBy_11 ?_
      rw [hl, hf]
      refine PW.istore_n (pc := 12) dX0_programBy_12 (by decide) ?_
      refine PW.aload_n (pc := 13) dX0_programBy_13 rfl ?_
      refine PW.invV0x (pc := 14) dX0_programBy_14 mv_X0_53 (CH) (by first | assumption | rfl) rfl rfl (Nat.le_of_ble_eq_true rfl) ?_
      refine PW.if_ne (pc := 17) (tgt := 33) dX0_programBy_17 (by decide) (by first | omega | exact rg_of _) (fun c_17 => ?_) (fun c_17 => ?_)
      · omega
      · refine PW.iload_n (pc := 20) dX0_programBy_20 rfl ?_
        refine PW.if_lt (pc := 21) (tgt := 33) dX0_programBy_21 (by decide) (by first | omega | exact rg_of _) (fun c_21 => ?_) (fun c_21 => ?_)
        · omega
        · refine PW.iload_n (pc := 24) dX0_programBy_24 rfl ?_
          refine PW.aload_n (pc := 25) dX0_programBy_25 rfl ?_
          refine PW.getr (pc := 26) dX0_programBy_26 fl_X0_34 (by first | assumption | rfl) (by first | assumption | rfl) ?_
          refine PW.alen (pc := 29) dX0_programBy_29 (by first | assumption | rfl) ?_
          refine PW.icmp_lt (pc := 30) (tgt := 35) dX0_programBy_30 (by decide) (by first | omega | exact rg_of _) (by first | omega | exact rg_of _) (fun c_30 => ?_) (fun c_30 => ?_)
          · refine PW.aload_n (pc := 35) dX0_programBy_35 rfl ?_
            refine PW.getr (pc := 36) dX0_programBy_36 fl_X0_34 (by first | assumption | rfl) (by first | assumption | rfl) ?_
            refine PW.iload_n (pc := 39) dX0_programBy_39 rfl ?_
            refine PW.iald (pc := 40) dX0_programBy_40 (by first | assumption | rfl) (by omega) (by omega) (by omega) ?_
            rw [KS]
            refine PW.iconst (pc := 41) dX0_programBy_41 ?_
            refine PW.icmp_ne (pc := 42) (tgt := 56) dX0_programBy_42 (by decide) (by first | omega | exact rg_of _) (by first | omega | exact rg_of _) (fun c_42 => ?_) (fun c_42 => ?_)
            · omega
            · refine PW.aload_n (pc := 45) dX0_programBy_45 rfl ?_
              refine PW.getr (pc := 46) dX0_programBy_46 fl_X0_34 (by first | assumption | rfl) (by first | assumption | rfl) ?_
              refine PW.iload_n (pc := 49) dX0_programBy_49 rfl ?_
              refine PW.aload_n (pc := 50) dX0_programBy_50 rfl ?_
              refine PW.aload_n (pc := 51) dX0_programBy_51 rfl ?_
              refine PW.invV0 (pc := 52) dX0_programBy_52 mv_X0_57 (c_X0_seek _ B ha hda KB K6 hl hf hw hl3 (by omega)) (by first | assumption | rfl) rfl rfl (Nat.le_of_ble_eq_true rfl) ?_
              (rintro v Γ' I2 R' ⟨rfl, rfl, k1, k2, k3, r, rfl, FBr⟩)
              refine PW.iast (pc := 55) dX0_programBy_55 (by first | assumption | rfl) (by omega) (by omega) (by omega) ?_
              have y : ∀ q z, ¬ (q = b + 16 ∧ z = lag * 8 + fw) → pw_up I2 (b + 16) (lag * 8 + fw) r q z = I2 q z := fun q z g => pw_up_other g
              refine PW.aload_n (pc := 56) dX0_programBy_56 rfl ?_
              refine PW.getr (pc := 57) dX0_programBy_57 fl_X0_34 (by first | assumption | rfl) (by first | assumption | rfl) ?_
              refine PW.iload_n (pc := 60) dX0_programBy_60 rfl ?_
              refine PW.iald (pc := 61) dX0_programBy_61 (by first | assumption | rfl) (by omega) (by omega) (by omega) ?_
              rw [pw_up_self]
              exact PW.ireturn (pc := 62) dX0_programBy_62 rfl (⟨rfl, rfl, fun q z g => by rw [y _ _ (by omega), k1 _ _ (by omega)], ⟨k2.congr (fun q a e k => y _ _ (by omega)), by rw [y _ _ (by omega)]; exact k3, fun lag' fw' l f => by
                by_cases q : lag' * 8 + fw' = lag * 8 + fw
                · obtain rfl : lag' = lag := by omega
                  obtain rfl : fw' = fw := by omega
                  rw [pw_up_self]
                  exact Or.inr (by rw [w0] at FBr; exact FBr)
                · rw [y _ _ (by omega), k1 _ _ (by omega)]
                  exact KF lag' fw' l f⟩, r, rfl, FBr⟩)
          · omega
    · have hv := KS.rg
      refine PW.aload_n (pc := 0) dX0_programBy_0 rfl ?_
      refine PW.geti (pc := 1) dX0_programBy_1 fl_X0_44 (by decide) (by first | assumption | rfl) ?_
      refine PW.bipush (pc := 4) dX0_programBy_4 (by decide) ?_
      refine PW.imul (pc := 6) dX0_programBy_6 ?_
      refine PW.aload_n (pc := 7) dX0_programBy_7 rfl ?_
      refine PW.geti (pc := 8) dX0_programBy_8 fl_X0_50 (by decide) (by first | assumption | rfl) ?_
      refine PW.iadd (pc := 11) dX0_programBy_11 ?_
      rw [hl, hf]
      refine PW.istore_n (pc := 12) dX0_programBy_12 (by decide) ?_
      refine PW.aload_n (pc := 13) dX0_programBy_13 rfl ?_
      refine PW.invV0x (pc := 14) dX0_programBy_14 mv_X0_53 (CH) (by first | assumption | rfl) rfl rfl (Nat.le_of_ble_eq_true rfl) ?_
      refine PW.if_ne (pc := 17) (tgt := 33) dX0_programBy_17 (by decide) (by first | omega | exact rg_of _) (fun c_17 => ?_) (fun c_17 => ?_)
      · omega
      · refine PW.iload_n (pc := 20) dX0_programBy_20 rfl ?_
        refine PW.if_lt (pc := 21) (tgt := 33) dX0_programBy_21 (by decide) (by first | omega | exact rg_of _) (fun c_21 => ?_) (fun c_21 => ?_)
        · omega
        · refine PW.iload_n (pc := 24) dX0_programBy_24 rfl ?_
          refine PW.aload_n (pc := 25) dX0_programBy_25 rfl ?_
          refine PW.getr (pc := 26) dX0_programBy_26 fl_X0_34 (by first | assumption | rfl) (by first | assumption | rfl) ?_
          refine PW.alen (pc := 29) dX0_programBy_29 (by first | assumption | rfl) ?_
          refine PW.icmp_lt (pc := 30) (tgt := 35) dX0_programBy_30 (by decide) (by first | omega | exact rg_of _) (by first | omega | exact rg_of _) (fun c_30 => ?_) (fun c_30 => ?_)
          · refine PW.aload_n (pc := 35) dX0_programBy_35 rfl ?_
            refine PW.getr (pc := 36) dX0_programBy_36 fl_X0_34 (by first | assumption | rfl) (by first | assumption | rfl) ?_
            refine PW.iload_n (pc := 39) dX0_programBy_39 rfl ?_
            refine PW.iald (pc := 40) dX0_programBy_40 (by first | assumption | rfl) (by omega) (by omega) (by omega) ?_
            refine PW.iconst (pc := 41) dX0_programBy_41 ?_
            refine PW.icmp_ne (pc := 42) (tgt := 56) dX0_programBy_42 (by decide) (by first | omega | exact rg_of _) (by first | omega | exact rg_of _) (fun c_42 => ?_) (fun c_42 => ?_)
            · refine PW.aload_n (pc := 56) dX0_programBy_56 rfl ?_
              refine PW.getr (pc := 57) dX0_programBy_57 fl_X0_34 (by first | assumption | rfl) (by first | assumption | rfl) ?_
              refine PW.iload_n (pc := 60) dX0_programBy_60 rfl ?_
              refine PW.iald (pc := 61) dX0_programBy_61 (by first | assumption | rfl) (by omega) (by omega) (by omega) ?_
              exact PW.ireturn (pc := 62) dX0_programBy_62 rfl (⟨rfl, rfl, fun _ _ _ => rfl, hK, _, rfl, by rw [w0]; exact KS⟩)
            · omega
          · omega
end RUN
