section SETTINGS
variable {sc : PSc} {Γ : List PTy} {R : PRm}
/-- what a setting has: codes, how many, LAG, FORWARDS, WAITS, facts that are in -/
abbrev SV : Type := (Int → Int) × Nat × Int × Int × Int × Int
def SetIs (I : PIm) (s : Nat) (v : SV) : Prop := I (s + 1) 1 = v.2.1 ∧ (∀ k : Int, 0 ≤ k → k < v.2.1 → I (s + 2) k = v.1 k) ∧ I (s + 3) 0 = v.2.2.1 ∧ I (s + 3) 1 = v.2.2.2.1 ∧ I (s + 3) 2 = v.2.2.2.2.1 ∧ I s 2 = v.2.2.2.2.2
def SVok (v : SV) : Prop := v.2.1 ≤ 6 ∧ (∀ k : Int, 0 ≤ k → k < v.2.1 → okc (v.1 k)) ∧ (0 ≤ v.2.2.1 ∧ v.2.2.1 ≤ 3) ∧ (0 ≤ v.2.2.2.1 ∧ v.2.2.2.1 ≤ 7) ∧ (0 ≤ v.2.2.2.2.1 ∧ v.2.2.2.2.1 ≤ 1) ∧ (0 ≤ v.2.2.2.2.2 ∧ v.2.2.2.2.2 < 64)
set_option maxRecDepth 100000 in
set_option maxHeartbeats 1000000 in
theorem SetIs.congr {I I' : PIm} {s : Nat} {v : SV} (h : SetIs I s v) (he : ∀ q, s ≤ q → q ≤ s + 3 → ∀ k, I' q k = I q k) : SetIs I' s v := by
  obtain ⟨a, b, c, d, e, f⟩ := h
  exact ⟨by rw [he _ (by omega) (by omega)]; exact a, fun k h0 h1 => by rw [he _ (by omega) (by omega)]; exact b k h0 h1, by rw [he _ (by omega) (by omega)]; exact c, by rw [he _ (by omega) (by omega)]; exact d, by rw [he _ (by omega) (by omega)]; exact e, by rw [he _ (by omega) (by omega)]; exact f⟩
set_option maxRecDepth 100000 in
set_option maxHeartbeats 1000000 in
theorem SetIs.prog {I : PIm} {s : Nat} {v : SV} (h : SetIs I s v) (ok : SVok v) : ProgOK I (s + 1) v.1 v.2.1 := ⟨h.1, ok.1, fun k h0 h1 => ⟨h.2.1 k h0 h1, ok.2.1 k h0 h1⟩⟩
set_option maxRecDepth 100000 in
set_option maxHeartbeats 1000000 in
theorem c_X7_copyFrom (d : Nat) {I : PIm} {s o : Nat} (S : SetAt Γ R s) (O : SetAt Γ R o) (hdj : o + 3 < s ∨ s + 3 < o) : PC sc mX7_copyFrom (d + 2) 0 0 [.inr (some s), .inr (some o)] Γ I R (fun v Γ' I' R' => v = none ∧ Γ' = Γ ∧ R' = R ∧ (∀ q z, ¬ (s ≤ q ∧ q ≤ s + 3) → I' q z = I q z) ∧ ∀ σ, SVok σ → SetIs I o σ → SetIs I' s σ) := by
  obtain ⟨s0, s1, s2, s3, s4⟩ := id S
  obtain ⟨o0, o1, o2, o3, o4⟩ := id O
  have s4' := s4.1
  refine PC.ofPW (by decide) (Nat.le_of_ble_eq_true rfl) ?_
  generalize hI1 : pw_up (pw_cp I (o + 1 + 1) (s + 1 + 1) 6) (s + 1) 1 (pw_cp I (o + 1 + 1) (s + 1 + 1) 6 (o + 1) 1) = I1
  have z1 : ∀ q z, q ≠ s + 1 → q ≠ s + 2 → I1 q z = I q z := fun q z h1 h2 => by
    rw [← hI1, pw_up_other (by omega)]
    exact if_neg (by omega)
  have y1 : ∀ k : Int, 0 ≤ k → k < 6 → I1 (s + 2) k = I (o + 2) k := fun k h0 h1 => by
    rw [← hI1, pw_up_other (by omega)]
    exact if_pos ⟨rfl, h0, h1⟩
  have x1 : I1 (s + 1) 1 = I (o + 1) 1 := by
    rw [← hI1, pw_up_self]
    exact if_neg (by omega)
  generalize hI2 : pw_up (pw_up (pw_up I1 (s + 3) 0 (I1 (o + 3) 0)) (s + 3) 1 (I1 (o + 3) 1)) (s + 3) 2 (I1 (o + 3) 2) = I2
  have z2 : ∀ q z, q ≠ s + 3 → I2 q z = I1 q z := fun q z h1 => by
    rw [← hI2, pw_up_other (by omega), pw_up_other (by omega), pw_up_other (by omega)]
  have w0 : I2 (s + 3) 0 = I (o + 3) 0 := by rw [← hI2, pw_up_other (by omega), pw_up_other (by omega), pw_up_self, z1 _ _ (by omega) (by omega)]
  have w1 : I2 (s + 3) 1 = I (o + 3) 1 := by rw [← hI2, pw_up_other (by omega), pw_up_self, z1 _ _ (by omega) (by omega)]
  have w2 : I2 (s + 3) 2 = I (o + 3) 2 := by rw [← hI2, pw_up_self, z1 _ _ (by omega) (by omega)]
  refine PW.aload_n (pc := 0) dX7_copyFrom_0 rfl ?_
  refine PW.getr (pc := 1) dX7_copyFrom_1 fl_X7_10 (by first | assumption | rfl) (by first | assumption | rfl) ?_
  refine PW.aload_n (pc := 4) dX7_copyFrom_4 rfl ?_
  refine PW.getr (pc := 5) dX7_copyFrom_5 fl_X7_10 (by first | assumption | rfl) (by first | assumption | rfl) ?_
  refine PW.invV0x (pc := 8) dX7_copyFrom_8 mv_X7_23 (c_X5_copyFrom (d + 1) s4 o4) (by first | assumption | rfl) rfl rfl (Nat.le_of_ble_eq_true rfl) ?_
  rw [hI1]
  refine PW.aload_n (pc := 11) dX7_copyFrom_11 rfl ?_
  refine PW.getr (pc := 12) dX7_copyFrom_12 fl_X7_19 (by first | assumption | rfl) (by first | assumption | rfl) ?_
  refine PW.aload_n (pc := 15) dX7_copyFrom_15 rfl ?_
  refine PW.getr (pc := 16) dX7_copyFrom_16 fl_X7_19 (by first | assumption | rfl) (by first | assumption | rfl) ?_
  refine PW.invV0x (pc := 19) dX7_copyFrom_19 mv_X7_27 (c_X4_copyFrom d s3 o3) (by first | assumption | rfl) rfl rfl (Nat.le_of_ble_eq_true rfl) ?_
  rw [hI2]
  refine PW.aload_n (pc := 22) dX7_copyFrom_22 rfl ?_
  refine PW.aload_n (pc := 23) dX7_copyFrom_23 rfl ?_
  refine PW.geti (pc := 24) dX7_copyFrom_24 fl_X7_30 (by decide) (by first | assumption | rfl) ?_
  refine PW.puti (pc := 27) dX7_copyFrom_27 fl_X7_30 (by first | assumption | rfl) ?_
  exact PW.vreturn (pc := 30) dX7_copyFrom_30 rfl (⟨rfl, rfl, rfl, fun q z hq => by rw [pw_up_other (by omega), z2 _ _ (by omega), z1 _ _ (by omega) (by omega)], fun σ ok hσ => ⟨by rw [pw_up_other (by omega), z2 _ _ (by omega), x1]; exact hσ.1, fun k h0 h1 => by have := ok.1; rw [pw_up_other (by omega), z2 _ _ (by omega), y1 k h0 (by omega)]; exact hσ.2.1 k h0 h1, by rw [pw_up_other (by omega), w0]; exact hσ.2.2.1, by rw [pw_up_other (by omega), w1]; exact hσ.2.2.2.1, by rw [pw_up_other (by omega), w2]; exact hσ.2.2.2.2.1, by rw [pw_up_self, z2 _ _ (by omega), z1 _ _ (by omega) (by omega)]; exact hσ.2.2.2.2.2⟩⟩)
set_option maxRecDepth 100000 in
set_option maxHeartbeats 1000000 in
theorem c_X7_startAs (d : Nat) {I : PIm} {s t n : Nat} {P : Int → Int} (S : SetAt Γ R s) (T : ToldAt Γ R t) (hP : ProgOK I (t + 7) P n) (hdj : t + 11 < s ∨ s + 3 < t) : PC sc mX7_startAs (d + 2) 0 0 [.inr (some s), .inr (some t)] Γ I R (fun v Γ' I' R' => v = none ∧ Γ' = Γ ∧ R' = R ∧ (∀ q z, ¬ (s ≤ q ∧ q ≤ s + 3) → I' q z = I q z) ∧ SetIs I' s (P, n, 2, 0, 0, pw_shl 1 (I t 5) - 1)) := by
  obtain ⟨s0, s1, s2, s3, s4⟩ := id S
  obtain ⟨t0, t1, t2, t3, t4, t5, t6, t7, t8, t9, t10⟩ := id T
  have s4' := s4.1
  refine PC.ofPW (by decide) (Nat.le_of_ble_eq_true rfl) ?_
  generalize hI1 : pw_up (pw_cp I (t + 7 + 1) (s + 1 + 1) 6) (s + 1) 1 (pw_cp I (t + 7 + 1) (s + 1 + 1) 6 (t + 7) 1) = I1
  have z1 : ∀ q z, q ≠ s + 1 → q ≠ s + 2 → I1 q z = I q z := fun q z h1 h2 => by
    rw [← hI1, pw_up_other (by omega)]
    exact if_neg (by omega)
  have y1 : ∀ k : Int, 0 ≤ k → k < 6 → I1 (s + 2) k = I (t + 7 + 1) k := fun k h0 h1 => by
    rw [← hI1, pw_up_other (by omega)]
    exact if_pos ⟨rfl, h0, h1⟩
  have x1 : I1 (s + 1) 1 = I (t + 7) 1 := by
    rw [← hI1, pw_up_self]
    exact if_neg (by omega)
  generalize hI2 : pw_up (pw_up (pw_up I1 (s + 3) 0 2) (s + 3) 1 0) (s + 3) 2 0 = I2
  have z2 : ∀ q z, q ≠ s + 3 → I2 q z = I1 q z := fun q z h1 => by
    rw [← hI2, pw_up_other (by omega), pw_up_other (by omega), pw_up_other (by omega)]
  have w0 : I2 (s + 3) 0 = 2 := by rw [← hI2, pw_up_other (by omega), pw_up_other (by omega), pw_up_self]
  have w1 : I2 (s + 3) 1 = 0 := by rw [← hI2, pw_up_other (by omega), pw_up_self]
  have w2 : I2 (s + 3) 2 = 0 := by rw [← hI2, pw_up_self]
  have f2 : I2 t 5 = I t 5 := by rw [z2 _ _ (by omega), z1 _ _ (by omega) (by omega)]
  refine PW.aload_n (pc := 0) dX7_startAs_0 rfl ?_
  refine PW.getr (pc := 1) dX7_startAs_1 fl_X7_10 (by first | assumption | rfl) (by first | assumption | rfl) ?_
  refine PW.aload_n (pc := 4) dX7_startAs_4 rfl ?_
  refine PW.getr (pc := 5) dX7_startAs_5 fl_X7_34 (by first | assumption | rfl) (by first | assumption | rfl) ?_
  refine PW.invV0x (pc := 8) dX7_startAs_8 mv_X7_23 (c_X5_copyFrom (d + 1) s4 t10) (by first | assumption | rfl) rfl rfl (Nat.le_of_ble_eq_true rfl) ?_
  rw [hI1]
  refine PW.aload_n (pc := 11) dX7_startAs_11 rfl ?_
  refine PW.getr (pc := 12) dX7_startAs_12 fl_X7_19 (by first | assumption | rfl) (by first | assumption | rfl) ?_
  refine PW.invV0x (pc := 15) dX7_startAs_15 mv_X7_37 (c_X4_setFirst d s3) (by first | assumption | rfl) rfl rfl (Nat.le_of_ble_eq_true rfl) ?_
  rw [hI2]
  refine PW.aload_n (pc := 18) dX7_startAs_18 rfl ?_
  refine PW.iconst (pc := 19) dX7_startAs_19 ?_
  refine PW.aload_n (pc := 20) dX7_startAs_20 rfl ?_
  refine PW.geti (pc := 21) dX7_startAs_21 fl_X7_40 (by decide) (by first | assumption | rfl) ?_
  rw [f2]
  refine PW.ishl (pc := 24) dX7_startAs_24 ?_
  refine PW.iconst (pc := 25) dX7_startAs_25 ?_
  refine PW.isub (pc := 26) dX7_startAs_26 ?_
  refine PW.puti (pc := 27) dX7_startAs_27 fl_X7_30 (by first | assumption | rfl) ?_
  exact PW.vreturn (pc := 30) dX7_startAs_30 rfl (⟨rfl, rfl, rfl, fun q z hq => by rw [pw_up_other (by omega), z2 _ _ (by omega), z1 _ _ (by omega) (by omega)], ⟨by rw [pw_up_other (by omega), z2 _ _ (by omega), x1]; exact hP.1, fun k h0 h1 => by have := hP.2.1; dsimp only at h1; rw [pw_up_other (by omega), z2 _ _ (by omega), y1 k h0 (by omega)]; exact (hP.2.2 k h0 h1).1, by rw [pw_up_other (by omega), w0], by rw [pw_up_other (by omega), w1], by rw [pw_up_other (by omega), w2], by rw [pw_up_self]⟩⟩)
/-! History: 0 settings, 1 size; the settings lie at places that are turned round -/
def HistAt (Γ : List PTy) (R : PRm) (h : Nat) : Prop := Γ[h]? = some (.inl 3) ∧ R h 0 = some (h + 1) ∧ Γ[h + 1]? = some (.inr (2, 10))
/-- where the settings lie -/
def HPos (Γ : List PTy) (R : PRm) (h : Nat) (ps : Int → Nat) : Prop := (∀ i : Int, 0 ≤ i → i < 10 → R (h + 1) i = some (ps i) ∧ SetAt Γ R (ps i) ∧ h + 2 ≤ ps i ∧ ps i + 3 ≤ h + 41) ∧ ∀ i j : Int, 0 ≤ i → i < 10 → 0 ≤ j → j < 10 → i ≠ j → ps i + 3 < ps j ∨ ps j + 3 < ps i
/-- what may be undone: the k-th of the oldest on -/
def HIs (I : PIm) (h : Nat) (ps : Int → Nat) (n : Nat) (Hs : Int → SV) : Prop := I h 1 = n ∧ n ≤ 10 ∧ ∀ i : Int, 0 ≤ i → i < n → SetIs I (ps i) (Hs i) ∧ SVok (Hs i)
set_option maxRecDepth 100000 in
set_option maxHeartbeats 1000000 in
theorem SetAt.congr {R' : PRm} {s : Nat} (S : SetAt Γ R s) (h : ∀ q, s ≤ q → q ≤ s + 3 → R' q = R q) : SetAt Γ R' s := by
  obtain ⟨a, b, c, d, e1, e2, e3⟩ := S
  exact ⟨a, by rw [h _ (by omega) (by omega)]; exact b, by rw [h _ (by omega) (by omega)]; exact c, d, e1, by rw [h _ (by omega) (by omega)]; exact e2, e3⟩
set_option maxRecDepth 100000 in
set_option maxHeartbeats 1000000 in
theorem c_X3_forgetAll (d : Nat) {I : PIm} {h : Nat} (H : HistAt Γ R h) : PC sc mX3_forgetAll d 0 0 [.inr (some h)] Γ I R (px none Γ (pw_up I h 1 0) R) := by
  have h0 := H.1
  refine PC.ofPW (by decide) (Nat.le_of_ble_eq_true rfl) ?_
  refine PW.aload_n (pc := 0) dX3_forgetAll_0 rfl ?_
  refine PW.iconst (pc := 1) dX3_forgetAll_1 ?_
  refine PW.puti (pc := 2) dX3_forgetAll_2 fl_X3_18 (by first | assumption | rfl) ?_
  exact PW.vreturn (pc := 5) dX3_forgetAll_5 rfl (px_rfl)
set_option maxRecDepth 100000 in
set_option maxHeartbeats 1000000 in
theorem c_X3_dropOldest (d : Nat) {I : PIm} {h : Nat} {ps : Int → Nat} (H : HistAt Γ R h) (HP : HPos Γ R h ps) : PC sc mX3_dropOldest d 0 0 [.inr (some h)] Γ I R (fun v Γ' I' R' => v = none ∧ Γ' = Γ ∧ I' = pw_up I h 1 9 ∧ (∀ q, q ≠ h + 1 → R' q = R q) ∧ HPos Γ R' h (fun i => if i = 9 then ps 0 else ps (i + 1))) := by
  obtain ⟨h0, h1, h2⟩ := id H
  obtain ⟨hp1, hp2⟩ := id HP
  have st : ∀ i : Int, 0 ≤ i → i < 10 → Γ[ps i]? = some (.inl 7) := fun i a b => (hp1 i a b).2.1.1
  have loop : ∀ (N k : Nat) (R2 : PRm), 10 - k = N → 1 ≤ k → k ≤ 10 → (∀ q, q ≠ h + 1 → R2 q = R q) → (∀ i : Int, 0 ≤ i → i < (k : Int) - 1 → R2 (h + 1) i = some (ps (i + 1))) → (∀ i : Int, (k : Int) - 1 ≤ i → i < 10 → R2 (h + 1) i = R (h + 1) i) → PW sc mX3_dropOldest d 0 0 (fun v Γ' I' R' => v = none ∧ Γ' = Γ ∧ I' = pw_up I h 1 9 ∧ (∀ q, q ≠ h + 1 → R' q = R q) ∧ HPos Γ R' h (fun i => if i = 9 then ps 0 else ps (i + 1))) 9 [some (.inr (some h)), some (.inr (some (ps 0))), some (.inl (k : Int))] [] Γ I R2 := by
    intro N
    induction N using Nat.strongRecOn with
    | _ N ih =>
      intro k R2 hN k1 k10 e1 e2 e3
      have r0 : R2 h 0 = some (h + 1) := by rw [e1 h (by omega)]; exact h1
      by_cases hk : k < 10
      · have ek : R2 (h + 1) (k : Int) = some (ps (k : Int)) := by rw [e3 _ (by omega) (by omega)]; exact (hp1 _ (by omega) (by omega)).1
        have sk := st (k : Int) (by omega) (by omega)
        refine PW.iload_n (pc := 9) dX3_dropOldest_9 rfl ?_
        refine PW.bipush (pc := 10) dX3_dropOldest_10 (by decide) ?_
        refine PW.icmp_ge (pc := 12) (tgt := 35) dX3_dropOldest_12 (by decide) (by first | omega | exact rg_of _) (by first | omega | exact rg_of _) (fun c_12 => ?_) (fun c_12 => ?_)
        · omega
        · refine PW.aload_n (pc := 15) dX3_dropOldest_15 rfl ?_
          refine PW.getr (pc := 16) dX3_dropOldest_16 fl_X3_11 (by first | assumption | rfl) (by first | assumption | rfl) ?_
          refine PW.iload_n (pc := 19) dX3_dropOldest_19 rfl ?_
          refine PW.iconst (pc := 20) dX3_dropOldest_20 ?_
          refine PW.isub (pc := 21) dX3_dropOldest_21 ?_
          refine PW.aload_n (pc := 22) dX3_dropOldest_22 rfl ?_
          refine PW.getr (pc := 23) dX3_dropOldest_23 fl_X3_11 (by first | assumption | rfl) (by first | assumption | rfl) ?_
          refine PW.iload_n (pc := 26) dX3_dropOldest_26 rfl ?_
          refine PW.aald (pc := 27) dX3_dropOldest_27 (by first | assumption | rfl) (by omega) (by omega) (by omega) (by first | assumption | rfl) ?_
          refine PW.aast (pc := 28) dX3_dropOldest_28 (by first | assumption | rfl) (by first | assumption | rfl) (by omega) (by omega) (by omega) ?_
          refine PW.iinc (pc := 29) dX3_dropOldest_29 rfl (by decide) ?_
          refine PW.goto (pc := 32) (tgt := 9) dX3_dropOldest_32 (by decide) ?_
          exact ih (10 - (k + 1)) (by omega) (k + 1) _ rfl (by omega) (by omega) (fun q hq => by funext z; rw [pw_upr_other (by omega), e1 q hq]) (fun i a b => by by_cases q : i = (k : Int) - 1; (· rw [q, pw_upr_self, show (k : Int) - 1 + 1 = k by omega]); (· rw [pw_upr_other (by omega), e2 i a (by omega)])) (fun i a b => by rw [pw_upr_other (by omega), e3 i (by omega) b])
      · obtain rfl : k = 10 := by omega
        have s0 := st 0 (by omega) (by omega)
        refine PW.iload_n (pc := 9) dX3_dropOldest_9 rfl ?_
        refine PW.bipush (pc := 10) dX3_dropOldest_10 (by decide) ?_
        refine PW.icmp_ge (pc := 12) (tgt := 35) dX3_dropOldest_12 (by decide) (by first | omega | exact rg_of _) (by first | omega | exact rg_of _) (fun c_12 => ?_) (fun c_12 => ?_)
        · refine PW.aload_n (pc := 35) dX3_dropOldest_35 rfl ?_
          refine PW.getr (pc := 36) dX3_dropOldest_36 fl_X3_11 (by first | assumption | rfl) (by first | assumption | rfl) ?_
          refine PW.bipush (pc := 39) dX3_dropOldest_39 (by decide) ?_
          refine PW.aload_n (pc := 41) dX3_dropOldest_41 rfl ?_
          refine PW.aast (pc := 42) dX3_dropOldest_42 (by first | assumption | rfl) (by first | assumption | rfl) (by omega) (by omega) (by omega) ?_
          refine PW.aload_n (pc := 43) dX3_dropOldest_43 rfl ?_
          refine PW.bipush (pc := 44) dX3_dropOldest_44 (by decide) ?_
          refine PW.puti (pc := 46) dX3_dropOldest_46 fl_X3_18 (by first | assumption | rfl) ?_
          exact PW.vreturn (pc := 49) dX3_dropOldest_49 rfl (by
          refine ⟨rfl, rfl, rfl, fun q hq => by funext z; rw [pw_upr_other (by omega), e1 q hq], fun i a b => ?_, fun i j a b a' b' hij => ?_⟩
          · dsimp only
            by_cases q : i = 9
            · rw [if_pos q, q, pw_upr_self]
              obtain ⟨-, u2, u3, u4⟩ := hp1 0 (by omega) (by omega)
              exact ⟨rfl, u2.congr (fun q h0 h1 => by funext z; rw [pw_upr_other (by omega), e1 q (by omega)]), u3, u4⟩
            · rw [if_neg q, pw_upr_other (by omega), e2 i a (by omega)]
              obtain ⟨-, u2, u3, u4⟩ := hp1 (i + 1) (by omega) (by omega)
              exact ⟨rfl, u2.congr (fun q h0 h1 => by funext z; rw [pw_upr_other (by omega), e1 q (by omega)]), u3, u4⟩
          · dsimp only
            by_cases q : i = 9
            · rw [if_pos q, if_neg (by omega)]
              exact hp2 _ _ (by omega) (by omega) (by omega) (by omega) (by omega)
            · rw [if_neg q]
              by_cases q' : j = 9
              · rw [if_pos q']
                exact hp2 _ _ (by omega) (by omega) (by omega) (by omega) (by omega)
              · rw [if_neg q']
                exact hp2 _ _ (by omega) (by omega) (by omega) (by omega) (by omega))
        · omega
  have e0 := (hp1 0 (by omega) (by omega)).1
  refine PC.ofPW (by decide) (Nat.le_of_ble_eq_true rfl) ?_
  refine PW.aload_n (pc := 0) dX3_dropOldest_0 rfl ?_
  refine PW.getr (pc := 1) dX3_dropOldest_1 fl_X3_11 (by first | assumption | rfl) (by first | assumption | rfl) ?_
  refine PW.iconst (pc := 4) dX3_dropOldest_4 ?_
  refine PW.aald (pc := 5) dX3_dropOldest_5 (by first | assumption | rfl) (by omega) (by omega) (by omega) (by first | assumption | rfl) ?_
  refine PW.astore_n (pc := 6) dX3_dropOldest_6 (by decide) ?_
  refine PW.iconst (pc := 7) dX3_dropOldest_7 ?_
  refine PW.istore_n (pc := 8) dX3_dropOldest_8 (by decide) ?_
  exact loop 9 1 R rfl (by omega) (by omega) (fun _ _ => rfl) (fun i a b => by omega) (fun _ _ _ => rfl)
/-- the settings with one more; an older one makes room -/
def hpush (n : Nat) (Hs : Int → SV) (v : SV) : Int → SV := fun i => if n < 10 then (if i = (n : Int) then v else Hs i) else (if i = 9 then v else Hs (i + 1))
def hlen (n : Nat) : Nat := if n < 10 then n + 1 else 10
set_option maxRecDepth 100000 in
set_option maxHeartbeats 1000000 in
theorem c_X3_remember (d : Nat) {I : PIm} {h s n : Nat} {ps : Int → Nat} {Hs : Int → SV} {v : SV} (H : HistAt Γ R h) (HP : HPos Γ R h ps) (HI : HIs I h ps n Hs) (S : SetAt Γ R s) (hs : s + 3 < h) (hv : SetIs I s v) (ok : SVok v) : PC sc mX3_remember (d + 3) 0 0 [.inr (some h), .inr (some s)] Γ I R (fun vv Γ' I' R' => vv = none ∧ Γ' = Γ ∧ (∀ q, q ≠ h + 1 → R' q = R q) ∧ (∀ q z, ¬ (h ≤ q ∧ q ≤ h + 41) → I' q z = I q z) ∧ ∃ ps', HPos Γ R' h ps' ∧ HIs I' h ps' (hlen n) (hpush n Hs v)) := by
  obtain ⟨h0, h1, h2⟩ := id H
  obtain ⟨i1, i2, i3⟩ := id HI
  have s0 := S.1
  have rest : ∀ (m : Nat) (I2 : PIm) (R2 : PRm) (ps2 : Int → Nat) (Hs2 : Int → SV), m < 10 → m + 1 = hlen n → (∀ i : Int, 0 ≤ i → i < m → hpush n Hs v i = Hs2 i) → hpush n Hs v (m : Int) = v → HPos Γ R2 h ps2 → HIs I2 h ps2 m Hs2 → (∀ q, q ≠ h + 1 → R2 q = R q) → (∀ q z, ¬ (h ≤ q ∧ q ≤ h + 41) → I2 q z = I q z) → PW sc mX3_remember (d + 3) 0 0 (fun vv Γ' I' R' => vv = none ∧ Γ' = Γ ∧ (∀ q, q ≠ h + 1 → R' q = R q) ∧ (∀ q z, ¬ (h ≤ q ∧ q ≤ h + 41) → I' q z = I q z) ∧ ∃ ps', HPos Γ R' h ps' ∧ HIs I' h ps' (hlen n) (hpush n Hs v)) 13 [some (.inr (some h)), some (.inr (some s))] [] Γ I2 R2 := by
    intro m I2 R2 ps2 Hs2 hm hml hpu hpv HP2 HI2 hR2 hI2
    obtain ⟨j1, j2, j3⟩ := id HI2
    obtain ⟨u1, u2, u3, u4⟩ := HP2.1 (m : Int) (by omega) (by omega)
    have u0 := u2.1
    have r0 : R2 h 0 = some (h + 1) := by rw [hR2 h (by omega)]; exact h1
    have S2 : SetAt Γ R2 s := S.congr (fun q a b => hR2 q (by omega))
    have hv2 : SetIs I2 s v := hv.congr (fun q a b k => hI2 q k (by omega))
    refine PW.aload_n (pc := 13) dX3_remember_13 rfl ?_
    refine PW.geti (pc := 14) dX3_remember_14 fl_X3_18 (by decide) (by first | assumption | rfl) ?_
    rw [j1]
    refine PW.if_lt (pc := 17) (tgt := 52) dX3_remember_17 (by decide) (by first | omega | exact rg_of _) (fun c_17 => ?_) (fun c_17 => ?_)
    · omega
    · refine PW.aload_n (pc := 20) dX3_remember_20 rfl ?_
      refine PW.geti (pc := 21) dX3_remember_21 fl_X3_18 (by decide) (by first | assumption | rfl) ?_
      rw [j1]
      refine PW.bipush (pc := 24) dX3_remember_24 (by decide) ?_
      refine PW.icmp_ge (pc := 26) (tgt := 52) dX3_remember_26 (by decide) (by first | omega | exact rg_of _) (by first | omega | exact rg_of _) (fun c_26 => ?_) (fun c_26 => ?_)
      · omega
      · refine PW.aload_n (pc := 29) dX3_remember_29 rfl ?_
        refine PW.getr (pc := 30) dX3_remember_30 fl_X3_11 (by first | assumption | rfl) (by first | assumption | rfl) ?_
        refine PW.aload_n (pc := 33) dX3_remember_33 rfl ?_
        refine PW.geti (pc := 34) dX3_remember_34 fl_X3_18 (by decide) (by first | assumption | rfl) ?_
        rw [j1]
        refine PW.aald (pc := 37) dX3_remember_37 (by first | assumption | rfl) (by omega) (by omega) (by omega) (by first | assumption | rfl) ?_
        refine PW.aload_n (pc := 38) dX3_remember_38 rfl ?_
        refine PW.invV0 (pc := 39) dX3_remember_39 mv_X3_25 (c_X7_copyFrom d u2 S2 (by omega)) (by first | assumption | rfl) rfl rfl (Nat.le_of_ble_eq_true rfl) ?_
        (rintro vv Γ' I' R' ⟨rfl, rfl, rfl, k1, k2⟩)
        refine PW.aload_n (pc := 42) dX3_remember_42 rfl ?_
        refine PW.dup (pc := 43) dX3_remember_43 ?_
        refine PW.geti (pc := 44) dX3_remember_44 fl_X3_18 (by decide) (by first | assumption | rfl) ?_
        rw [k1 h 1 (by omega), j1]
        refine PW.iconst (pc := 47) dX3_remember_47 ?_
        refine PW.iadd (pc := 48) dX3_remember_48 ?_
        refine PW.puti (pc := 49) dX3_remember_49 fl_X3_18 (by first | assumption | rfl) ?_
        exact PW.vreturn (pc := 52) dX3_remember_52 rfl (by
        refine ⟨rfl, rfl, hR2, fun q z hq => by rw [pw_up_other (by omega), k1 q z (by omega), hI2 q z hq], ps2, HP2, ?_, by rw [← hml]; omega, fun i a b => ?_⟩
        · rw [pw_up_self, ← hml]; omega
        · by_cases q : i = (m : Int)
          · rw [q, hpv]
            exact ⟨(k2 v ok hv2).congr (fun q a b k => pw_up_other (by omega)), ok⟩
          · have hi : i < m := by rw [← hml] at b; omega
            obtain ⟨w1, w2, w3, w4⟩ := HP2.1 i a (by omega)
            have dj := HP2.2 i (m : Int) a (by omega) (by omega) (by omega) q
            rw [hpu i a hi]
            exact ⟨(j3 i a hi).1.congr (fun q' a' b' k => by rw [pw_up_other (by omega), k1 q' k (by omega)]), (j3 i a hi).2⟩)
  refine PC.ofPW (by decide) (Nat.le_of_ble_eq_true rfl) ?_
  by_cases hn : n < 10
  · refine PW.aload_n (pc := 0) dX3_remember_0 rfl ?_
    refine PW.geti (pc := 1) dX3_remember_1 fl_X3_18 (by decide) (by first | assumption | rfl) ?_
    rw [i1]
    refine PW.bipush (pc := 4) dX3_remember_4 (by decide) ?_
    refine PW.icmp_lt (pc := 6) (tgt := 13) dX3_remember_6 (by decide) (by first | omega | exact rg_of _) (by first | omega | exact rg_of _) (fun c_6 => ?_) (fun c_6 => ?_)
    · exact rest n I R ps Hs hn (by unfold hlen; rw [if_pos hn]) (fun i a b => by unfold hpush; rw [if_pos hn, if_neg (by omega)]) (by unfold hpush; rw [if_pos hn, if_pos rfl]) HP HI (fun _ _ => rfl) (fun _ _ _ => rfl)
    · omega
  · refine PW.aload_n (pc := 0) dX3_remember_0 rfl ?_
    refine PW.geti (pc := 1) dX3_remember_1 fl_X3_18 (by decide) (by first | assumption | rfl) ?_
    rw [i1]
    refine PW.bipush (pc := 4) dX3_remember_4 (by decide) ?_
    refine PW.icmp_lt (pc := 6) (tgt := 13) dX3_remember_6 (by decide) (by first | omega | exact rg_of _) (by first | omega | exact rg_of _) (fun c_6 => ?_) (fun c_6 => ?_)
    · omega
    · refine PW.aload_n (pc := 9) dX3_remember_9 rfl ?_
      refine PW.invV0 (pc := 10) dX3_remember_10 mv_X3_22 (c_X3_dropOldest (d + 2) H HP) (by first | assumption | rfl) rfl rfl (Nat.le_of_ble_eq_true rfl) ?_
      (rintro vv Γ' I' R' ⟨rfl, rfl, rfl, k1, k2⟩)
      exact rest 9 _ R' _ (fun i => Hs (i + 1)) (by omega) (by unfold hlen; rw [if_neg hn]) (fun i a b => by unfold hpush; rw [if_neg hn, if_neg (by omega)]) (by unfold hpush; rw [if_neg hn]; rfl) k2 ⟨pw_up_self _ _ _ _, by omega, fun i a b => by
        dsimp only
        rw [if_neg (by omega)]
        obtain ⟨w1, w2, w3, w4⟩ := HP.1 (i + 1) (by omega) (by omega)
        exact ⟨(i3 (i + 1) (by omega) (by omega)).1.congr (fun q a b k => pw_up_other (by omega)), (i3 (i + 1) (by omega) (by omega)).2⟩⟩ k1 (fun q z hq => pw_up_other (by omega))
set_option maxRecDepth 100000 in
set_option maxHeartbeats 1000000 in
theorem c_X3_restoreLatest (d : Nat) {I : PIm} {h s n : Nat} {ps : Int → Nat} {Hs : Int → SV} (H : HistAt Γ R h) (HP : HPos Γ R h ps) (HI : HIs I h ps n Hs) (hn : 0 < n) (S : SetAt Γ R s) (hs : s + 3 < h) : PC sc mX3_restoreLatest (d + 3) 0 0 [.inr (some h), .inr (some s)] Γ I R (fun vv Γ' I' R' => vv = none ∧ Γ' = Γ ∧ R' = R ∧ (∀ q z, ¬ (q = h ∨ (s ≤ q ∧ q ≤ s + 3)) → I' q z = I q z) ∧ HIs I' h ps (n - 1) Hs ∧ SetIs I' s (Hs ((n : Int) - 1))) := by
  obtain ⟨h0, h1, h2⟩ := id H
  obtain ⟨i1, i2, i3⟩ := id HI
  have s0 := S.1
  obtain ⟨u1, u2, u3, u4⟩ := HP.1 ((n : Int) - 1) (by omega) (by omega)
  have u0 := u2.1
  refine PC.ofPW (by decide) (Nat.le_of_ble_eq_true rfl) ?_
  refine PW.aload_n (pc := 0) dX3_restoreLatest_0 rfl ?_
  refine PW.geti (pc := 1) dX3_restoreLatest_1 fl_X3_18 (by decide) (by first | assumption | rfl) ?_
  rw [i1]
  refine PW.if_le (pc := 4) (tgt := 39) dX3_restoreLatest_4 (by decide) (by first | omega | exact rg_of _) (fun c_4 => ?_) (fun c_4 => ?_)
  · omega
  · refine PW.aload_n (pc := 7) dX3_restoreLatest_7 rfl ?_
    refine PW.geti (pc := 8) dX3_restoreLatest_8 fl_X3_18 (by decide) (by first | assumption | rfl) ?_
    rw [i1]
    refine PW.bipush (pc := 11) dX3_restoreLatest_11 (by decide) ?_
    refine PW.icmp_gt (pc := 13) (tgt := 39) dX3_restoreLatest_13 (by decide) (by first | omega | exact rg_of _) (by first | omega | exact rg_of _) (fun c_13 => ?_) (fun c_13 => ?_)
    · omega
    · refine PW.aload_n (pc := 16) dX3_restoreLatest_16 rfl ?_
      refine PW.dup (pc := 17) dX3_restoreLatest_17 ?_
      refine PW.geti (pc := 18) dX3_restoreLatest_18 fl_X3_18 (by decide) (by first | assumption | rfl) ?_
      rw [i1]
      refine PW.iconst (pc := 21) dX3_restoreLatest_21 ?_
      refine PW.isub (pc := 22) dX3_restoreLatest_22 ?_
      refine PW.puti (pc := 23) dX3_restoreLatest_23 fl_X3_18 (by first | assumption | rfl) ?_
      refine PW.aload_n (pc := 26) dX3_restoreLatest_26 rfl ?_
      refine PW.aload_n (pc := 27) dX3_restoreLatest_27 rfl ?_
      refine PW.getr (pc := 28) dX3_restoreLatest_28 fl_X3_11 (by first | assumption | rfl) (by first | assumption | rfl) ?_
      refine PW.aload_n (pc := 31) dX3_restoreLatest_31 rfl ?_
      refine PW.geti (pc := 32) dX3_restoreLatest_32 fl_X3_18 (by decide) (by first | assumption | rfl) ?_
      rw [pw_up_self]
      refine PW.aald (pc := 35) dX3_restoreLatest_35 (by first | assumption | rfl) (by omega) (by omega) (by omega) (by first | assumption | rfl) ?_
      refine PW.invV0 (pc := 36) dX3_restoreLatest_36 mv_X3_25 (c_X7_copyFrom _ S u2 (by omega)) (by first | assumption | rfl) rfl rfl (Nat.le_of_ble_eq_true rfl) ?_
      (rintro vv Γ' I' R' ⟨rfl, rfl, rfl, k1, k2⟩)
      exact PW.vreturn (pc := 39) dX3_restoreLatest_39 rfl (by
      refine ⟨rfl, rfl, rfl, fun q z hq => by rw [k1 q z (by omega), pw_up_other (by omega)], ⟨by rw [k1 h 1 (by omega), pw_up_self]; omega, by omega, fun i a b => ?_⟩, k2 _ (i3 _ (by omega) (by omega)).2 ((i3 _ (by omega) (by omega)).1.congr (fun q a b k => pw_up_other (by omega)))⟩
      obtain ⟨w1, w2, w3, w4⟩ := HP.1 i a (by omega)
      exact ⟨(i3 i a (by omega)).1.congr (fun q' a' b' k => by rw [k1 q' k (by omega), pw_up_other (by omega)]), (i3 i a (by omega)).2⟩)
end SETTINGS
