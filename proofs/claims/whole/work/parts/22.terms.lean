section TERMS
variable {sc : PSc} {Γ : List PTy} {R : PRm}
/-! Terms: 0 head, 1 left, 2 right, 3 depth, 4 letters (the rows lie behind the object), 5 size, 6 lasting -/
def TermsAt (Γ : List PTy) (R : PRm) (h n : Nat) : Prop := Γ[h]? = some (.inl 8) ∧ R h 0 = some (h + 1) ∧ R h 1 = some (h + 2) ∧ R h 2 = some (h + 3) ∧ R h 3 = some (h + 4) ∧ R h 4 = some (h + 5) ∧ Γ[h + 1]? = some (.inr (0, n)) ∧ Γ[h + 2]? = some (.inr (0, n)) ∧ Γ[h + 3]? = some (.inr (0, n)) ∧ Γ[h + 4]? = some (.inr (0, n)) ∧ Γ[h + 5]? = some (.inr (0, n)) ∧ n ≤ 200
/-- one row of the table -/
def TabE (I : PIm) (h : Nat) (tb : Int → Tm) (i : Int) : Prop :=
  (i < 4 → I (h + 1) i = i ∧ tb i = tc i ∧ I (h + 2) i = i ∧ I (h + 3) i = i) ∧
  (4 ≤ i → (0 ≤ I (h + 2) i ∧ I (h + 2) i < i ∧ 0 ≤ I (h + 3) i ∧ I (h + 3) i < i) ∧ ((I (h + 1) i = 4 ∧ I (h + 3) i = I (h + 2) i ∧ tb i = tf (tb (I (h + 2) i))) ∨ (I (h + 1) i = 5 ∧ tb i = tg (tb (I (h + 2) i)) (tb (I (h + 3) i))))) ∧
  I (h + 4) i = dep (tb i) ∧ I (h + 5) i = siz (tb i) ∧ dep (tb i) ≤ i
def Tab (I : PIm) (h : Nat) (sz : Int) (tb : Int → Tm) : Prop := 4 ≤ sz ∧ (∀ i, 0 ≤ i → i < sz → TabE I h tb i) ∧ ∀ i j, 0 ≤ i → i < sz → 0 ≤ j → j < sz → tb i = tb j → i = j
set_option maxRecDepth 100000 in
set_option maxHeartbeats 4000000 in
theorem Tab.row {I : PIm} {h : Nat} {sz : Int} {tb : Int → Tm} (T : Tab I h sz tb) {i : Int} (h0 : 0 ≤ i) (h1 : i < sz) : TabE I h tb i := T.2.1 i h0 h1
set_option maxRecDepth 100000 in
set_option maxHeartbeats 4000000 in
theorem Tab.dp {I : PIm} {h : Nat} {sz : Int} {tb : Int → Tm} (T : Tab I h sz tb) {i : Int} (h0 : 0 ≤ i) (h1 : i < sz) : 0 ≤ I (h + 4) i ∧ I (h + 4) i ≤ i := by
  obtain ⟨-, -, e1, -, e2⟩ := T.row h0 h1
  rw [e1]
  exact ⟨dep_nonneg _, e2⟩
set_option maxRecDepth 100000 in
set_option maxHeartbeats 4000000 in
theorem Tab.hd {I : PIm} {h : Nat} {sz : Int} {tb : Int → Tm} (T : Tab I h sz tb) {i : Int} (h0 : 0 ≤ i) (h1 : i < sz) : (0 ≤ I (h + 1) i ∧ I (h + 1) i ≤ 5) ∧ (0 ≤ I (h + 2) i ∧ I (h + 2) i ≤ i) ∧ (0 ≤ I (h + 3) i ∧ I (h + 3) i ≤ i) := by
  obtain ⟨e1, e2, -, -, -⟩ := T.row h0 h1
  by_cases hi : i < 4
  · obtain ⟨a, b, c, d⟩ := e1 hi
    omega
  · obtain ⟨a, b⟩ := e2 (by omega)
    rcases b with ⟨b, -⟩ | ⟨b, -⟩ <;> omega
/-- the memory with a row more -/
def apM (I : PIm) (h : Nat) (z top a b : Int) : PIm := pw_up (pw_up (pw_up (pw_up (pw_up (pw_up I (h + 1) z top) (h + 2) z a) (h + 3) z b) (h + 4) z (1 + max (I (h + 4) a) (I (h + 4) b))) (h + 5) z (1 + I (h + 5) a + (if top = 5 then I (h + 5) b else 0))) h 5 (z + 1)
set_option maxRecDepth 100000 in
set_option maxHeartbeats 4000000 in
theorem apM_1 {I : PIm} {h : Nat} {z top a b j : Int} : apM I h z top a b (h + 1) j = if j = z then top else I (h + 1) j := by simp [apM, pw_up]
set_option maxRecDepth 100000 in
set_option maxHeartbeats 4000000 in
theorem apM_2 {I : PIm} {h : Nat} {z top a b j : Int} : apM I h z top a b (h + 2) j = if j = z then a else I (h + 2) j := by simp [apM, pw_up]
set_option maxRecDepth 100000 in
set_option maxHeartbeats 4000000 in
theorem apM_3 {I : PIm} {h : Nat} {z top a b j : Int} : apM I h z top a b (h + 3) j = if j = z then b else I (h + 3) j := by simp [apM, pw_up]
set_option maxRecDepth 100000 in
set_option maxHeartbeats 4000000 in
theorem apM_4 {I : PIm} {h : Nat} {z top a b j : Int} : apM I h z top a b (h + 4) j = if j = z then 1 + max (I (h + 4) a) (I (h + 4) b) else I (h + 4) j := by simp [apM, pw_up]
set_option maxRecDepth 100000 in
set_option maxHeartbeats 4000000 in
theorem apM_5 {I : PIm} {h : Nat} {z top a b j : Int} : apM I h z top a b (h + 5) j = if j = z then 1 + I (h + 5) a + (if top = 5 then I (h + 5) b else 0) else I (h + 5) j := by simp [apM, pw_up]
set_option maxRecDepth 100000 in
set_option maxHeartbeats 4000000 in
theorem apM_0 {I : PIm} {h : Nat} {z top a b j : Int} : apM I h z top a b h j = if j = 5 then z + 1 else I h j := by simp [apM, pw_up]
set_option maxRecDepth 100000 in
set_option maxHeartbeats 4000000 in
theorem apM_o {I : PIm} {h p : Nat} {z top a b j : Int} (hp : ¬ (h ≤ p ∧ p ≤ h + 5)) : apM I h z top a b p j = I p j := by
  unfold apM
  rw [pw_up_other (by omega), pw_up_other (by omega), pw_up_other (by omega), pw_up_other (by omega), pw_up_other (by omega), pw_up_other (by omega)]
set_option maxRecDepth 100000 in
set_option maxHeartbeats 4000000 in
theorem c_X8_has (d : Nat) {I : PIm} {h n : Nat} {t : Int} (T : TermsAt Γ R h n) (hs : Rg (I h 5)) (ht : Rg t) : PC sc mX8_has d 0 0 [.inr (some h), .inl t] Γ I R (px (some (.inl (bi (0 ≤ t ∧ t < I h 5 ∧ t < n)))) Γ I R) := by
  obtain ⟨t0, t1, -, -, -, -, t6, -, -, -, -, t11⟩ := T
  refine PC.ofPW (by decide) (Nat.le_of_ble_eq_true rfl) ?_
  refine PW.iload_n (pc := 0) dX8_has_0 rfl ?_
  refine PW.if_lt (pc := 1) (tgt := 25) dX8_has_1 (by decide) (by first | omega | exact rg_of _) (fun c_1 => ?_) (fun c_1 => ?_)
  · refine PW.iconst (pc := 25) dX8_has_25 ?_
    exact PW.zreturn (pc := 26) dX8_has_26 rfl (by first | exact Or.inl rfl | exact Or.inr rfl | omega) (by first | (rw [bi_pos (by omega)]; exact px_rfl) | (rw [bi_neg (by omega)]; exact px_rfl))
  · refine PW.iload_n (pc := 4) dX8_has_4 rfl ?_
    refine PW.aload_n (pc := 5) dX8_has_5 rfl ?_
    refine PW.geti (pc := 6) dX8_has_6 fl_X8_36 (by decide) (by first | assumption | rfl) ?_
    refine PW.icmp_ge (pc := 9) (tgt := 25) dX8_has_9 (by decide) (by first | omega | exact rg_of _) (by first | omega | exact rg_of _) (fun c_9 => ?_) (fun c_9 => ?_)
    · refine PW.iconst (pc := 25) dX8_has_25 ?_
      exact PW.zreturn (pc := 26) dX8_has_26 rfl (by first | exact Or.inl rfl | exact Or.inr rfl | omega) (by first | (rw [bi_pos (by omega)]; exact px_rfl) | (rw [bi_neg (by omega)]; exact px_rfl))
    · refine PW.iload_n (pc := 12) dX8_has_12 rfl ?_
      refine PW.aload_n (pc := 13) dX8_has_13 rfl ?_
      refine PW.getr (pc := 14) dX8_has_14 fl_X8_15 (by first | assumption | rfl) (by first | assumption | rfl) ?_
      refine PW.alen (pc := 17) dX8_has_17 (by first | assumption | rfl) ?_
      refine PW.icmp_ge (pc := 18) (tgt := 25) dX8_has_18 (by decide) (by first | omega | exact rg_of _) (by first | omega | exact rg_of _) (fun c_18 => ?_) (fun c_18 => ?_)
      · refine PW.iconst (pc := 25) dX8_has_25 ?_
        exact PW.zreturn (pc := 26) dX8_has_26 rfl (by first | exact Or.inl rfl | exact Or.inr rfl | omega) (by first | (rw [bi_pos (by omega)]; exact px_rfl) | (rw [bi_neg (by omega)]; exact px_rfl))
      · refine PW.iconst (pc := 21) dX8_has_21 ?_
        refine PW.goto (pc := 22) (tgt := 26) dX8_has_22 (by decide) ?_
        exact PW.zreturn (pc := 26) dX8_has_26 rfl (by first | exact Or.inl rfl | exact Or.inr rfl | omega) (by first | (rw [bi_pos (by omega)]; exact px_rfl) | (rw [bi_neg (by omega)]; exact px_rfl))
set_option maxRecDepth 100000 in
set_option maxHeartbeats 4000000 in
theorem c_X8_forgetAll (d : Nat) {I : PIm} {h : Nat} (hh : Γ[h]? = some (.inl 8)) : PC sc mX8_forgetAll d 0 0 [.inr (some h)] Γ I R (px none Γ (pw_up (pw_up I h 5 4) h 6 4) R) := by
  refine PC.ofPW (by decide) (Nat.le_of_ble_eq_true rfl) ?_
  refine PW.aload_n (pc := 0) dX8_forgetAll_0 rfl ?_
  refine PW.iconst (pc := 1) dX8_forgetAll_1 ?_
  refine PW.puti (pc := 2) dX8_forgetAll_2 fl_X8_36 (by first | assumption | rfl) ?_
  refine PW.aload_n (pc := 5) dX8_forgetAll_5 rfl ?_
  refine PW.iconst (pc := 6) dX8_forgetAll_6 ?_
  refine PW.puti (pc := 7) dX8_forgetAll_7 fl_X8_40 (by first | assumption | rfl) ?_
  exact PW.vreturn (pc := 10) dX8_forgetAll_10 rfl (px_rfl)
set_option maxRecDepth 100000 in
set_option maxHeartbeats 4000000 in
theorem c_X8_makeLasting (d : Nat) {I : PIm} {h : Nat} (hh : Γ[h]? = some (.inl 8)) : PC sc mX8_makeLasting d 0 0 [.inr (some h)] Γ I R (px none Γ (pw_up I h 6 (I h 5)) R) := by
  refine PC.ofPW (by decide) (Nat.le_of_ble_eq_true rfl) ?_
  refine PW.aload_n (pc := 0) dX8_makeLasting_0 rfl ?_
  refine PW.aload_n (pc := 1) dX8_makeLasting_1 rfl ?_
  refine PW.geti (pc := 2) dX8_makeLasting_2 fl_X8_36 (by decide) (by first | assumption | rfl) ?_
  refine PW.puti (pc := 5) dX8_makeLasting_5 fl_X8_40 (by first | assumption | rfl) ?_
  exact PW.vreturn (pc := 8) dX8_makeLasting_8 rfl (px_rfl)
set_option maxRecDepth 100000 in
set_option maxHeartbeats 4000000 in
theorem c_X8_dropPassing (d : Nat) {I : PIm} {h : Nat} (hh : Γ[h]? = some (.inl 8)) : PC sc mX8_dropPassing d 0 0 [.inr (some h)] Γ I R (px none Γ (pw_up I h 5 (I h 6)) R) := by
  refine PC.ofPW (by decide) (Nat.le_of_ble_eq_true rfl) ?_
  refine PW.aload_n (pc := 0) dX8_dropPassing_0 rfl ?_
  refine PW.aload_n (pc := 1) dX8_dropPassing_1 rfl ?_
  refine PW.geti (pc := 2) dX8_dropPassing_2 fl_X8_40 (by decide) (by first | assumption | rfl) ?_
  refine PW.puti (pc := 5) dX8_dropPassing_5 fl_X8_36 (by first | assumption | rfl) ?_
  exact PW.vreturn (pc := 8) dX8_dropPassing_8 rfl (px_rfl)
set_option maxRecDepth 100000 in
set_option maxHeartbeats 4000000 in
/-- a row more: still a table -/
theorem Tab.ext {I : PIm} {h : Nat} {z : Int} {tb : Int → Tm} (T : Tab I h z tb) {top a b : Int} (ht : top = 4 ∨ top = 5) (ha : 0 ≤ a ∧ a < z) (hb : 0 ≤ b ∧ b < z) (h4 : top = 4 → b = a) {t : Tm} (et : t = if top = 5 then tg (tb a) (tb b) else tf (tb a)) (hno : ∀ j, 0 ≤ j → j < z → tb j ≠ t) :
    Tab (apM I h z top a b) h (z + 1) (fun j => if j = z then t else tb j) := by
  obtain ⟨T0, T1, T2⟩ := T
  refine ⟨by omega, fun i h0 h1 => ?_, fun i j h0 h1 g0 g1 e => ?_⟩
  · by_cases hi : i = z
    · subst hi
      have ra := T1 a ha.1 ha.2
      have rb := T1 b hb.1 hb.2
      refine ⟨fun q => by omega, fun _ => ?_, ?_, ?_, ?_⟩
      · rw [apM_1, apM_2, apM_3]
        simp only [if_true]
        rw [if_neg (show ¬ a = i by omega), if_neg (show ¬ b = i by omega)]
        refine ⟨by omega, ?_⟩
        rcases ht with rfl | rfl
        · exact Or.inl ⟨rfl, h4 rfl, by rw [et, if_neg (by decide)]⟩
        · exact Or.inr ⟨rfl, by rw [et, if_pos rfl]⟩
      · rw [apM_4]
        simp only [if_true]
        rw [ra.2.2.1, rb.2.2.1, et]
        rcases ht with rfl | rfl
        · rw [if_neg (by decide), h4 rfl, dep_tf, Int.max_self]
        · rw [if_pos rfl, dep_tg]
      · rw [apM_5]
        simp only [if_true]
        rw [ra.2.2.2.1, rb.2.2.2.1, et]
        rcases ht with rfl | rfl
        · rw [if_neg (by decide), if_neg (by decide), siz_tf]
          omega
        · rw [if_pos rfl, if_pos rfl, siz_tg]
      · simp only [if_true]
        have da := ra.2.2.2.2
        have db := rb.2.2.2.2
        rw [et]
        rcases ht with rfl | rfl
        · rw [if_neg (by decide), dep_tf]
          omega
        · rw [if_pos rfl, dep_tg]
          omega
    · have r := T1 i h0 (by omega)
      unfold TabE at r ⊢
      rw [apM_1, apM_2, apM_3, apM_4, apM_5, if_neg hi, if_neg hi, if_neg hi, if_neg hi, if_neg hi]
      simp only [if_neg hi]
      refine ⟨r.1, fun q => ?_, r.2.2⟩
      have r2 := r.2.1 q
      rw [if_neg (show ¬ I (h + 2) i = z by omega), if_neg (show ¬ I (h + 3) i = z by omega)]
      exact r2
  · by_cases hi : i = z <;> by_cases hj : j = z
    · omega
    · simp only [if_pos hi, if_neg hj] at e
      exact absurd e.symm (hno j g0 (by omega))
    · simp only [if_neg hi, if_pos hj] at e
      exact absurd e (hno i h0 (by omega))
    · simp only [if_neg hi, if_neg hj] at e
      exact T2 i j h0 (by omega) g0 (by omega) e
set_option maxRecDepth 100000 in
set_option maxHeartbeats 4000000 in
/-- what is not found by its parts is not there -/
theorem Tab.nowhere {I : PIm} {h : Nat} {z : Int} {tb : Int → Tm} (T : Tab I h z tb) {top a b : Int} (ht : top = 4 ∨ top = 5) (ha : 0 ≤ a ∧ a < z) (hb : 0 ≤ b ∧ b < z) (h4 : top = 4 → b = a) {t : Tm} (et : t = if top = 5 then tg (tb a) (tb b) else tf (tb a))
    (hno : ∀ j, 4 ≤ j → j < z → ¬ (I (h + 1) j = top ∧ I (h + 2) j = a ∧ I (h + 3) j = b)) : ∀ j, 0 ≤ j → j < z → tb j ≠ t := by
  intro j h0 h1 e
  obtain ⟨r1, r2, -⟩ := T.row h0 h1
  by_cases hj : j < 4
  · rw [(r1 hj).2.1, et] at e
    split at e
    · exact tc_tg e
    · exact tc_tf e
  · obtain ⟨⟨q1, q2, q3, q4⟩, q⟩ := r2 (by omega)
    rcases ht with rfl | rfl
    · rw [if_neg (by decide)] at et
      rcases q with ⟨w1, w2, w3⟩ | ⟨w1, w3⟩
      · rw [w3, et] at e
        have := T.2.2 _ _ q1 (by omega) ha.1 ha.2 (tf_inj e)
        exact hno j (by omega) h1 ⟨w1, this, by rw [w2, this, h4 rfl]⟩
      · rw [w3, et] at e
        exact tf_tg e.symm
    · rw [if_pos rfl] at et
      rcases q with ⟨w1, w2, w3⟩ | ⟨w1, w3⟩
      · rw [w3, et] at e
        exact tf_tg e
      · rw [w3, et] at e
        have e1 := T.2.2 _ _ q1 (by omega) ha.1 ha.2 (tg_inj e).1
        have e2 := T.2.2 _ _ q3 (by omega) hb.1 hb.2 (tg_inj e).2
        exact hno j (by omega) h1 ⟨w1, e1, e2⟩
set_option maxRecDepth 100000 in
set_option maxHeartbeats 4000000 in
theorem Tab.found {I : PIm} {h : Nat} {z : Int} {tb : Int → Tm} (T : Tab I h z tb) {top a b j : Int} (ht : top = 4 ∨ top = 5) {t : Tm} (et : t = if top = 5 then tg (tb a) (tb b) else tf (tb a)) (h0 : 4 ≤ j) (h1 : j < z) (e : I (h + 1) j = top ∧ I (h + 2) j = a ∧ I (h + 3) j = b) : tb j = t := by
  obtain ⟨-, r2, -⟩ := T.row (by omega) h1
  obtain ⟨-, q⟩ := r2 h0
  obtain ⟨e1, e2, e3⟩ := e
  rw [et]
  rcases ht with rfl | rfl
  · rw [if_neg (by decide)]
    rcases q with ⟨w1, w2, w3⟩ | ⟨w1, w3⟩
    · rw [w3, e2]
    · omega
  · rw [if_pos rfl]
    rcases q with ⟨w1, w2, w3⟩ | ⟨w1, w3⟩
    · omega
    · rw [w3, e2, e3]
/-- behind a making: the term's place, the table, what has changed -/
def Made (I I' : PIm) (h : Nat) (tb tb' : Int → Tm) (t : Tm) (i : Int) : Prop :=
  (0 ≤ i ∧ i < I' h 5) ∧ tb' i = t ∧ Tab I' h (I' h 5) tb' ∧ (I h 5 ≤ I' h 5 ∧ I' h 5 ≤ I h 5 + 1) ∧ (∀ j, j < I h 5 → tb' j = tb j) ∧ (∀ j, j < I' h 5 → j < I h 5 ∨ tb' j = t) ∧ (∀ p k, ¬ (h ≤ p ∧ p ≤ h + 5) → I' p k = I p k) ∧ I' h 6 = I h 6
set_option maxRecDepth 100000 in
set_option maxHeartbeats 4000000 in
theorem c_X8_placeOf (d : Nat) {I : PIm} {h n : Nat} {tb : Int → Tm} {top a b : Int} (T : TermsAt Γ R h n) (TB : Tab I h (I h 5) tb) (hz : I h 5 < n) (ht : top = 4 ∨ top = 5) (ha : 0 ≤ a ∧ a < I h 5) (hb : 0 ≤ b ∧ b < I h 5) :
    PC sc mX8_placeOf d 0 0 [.inr (some h), .inl top, .inl a, .inl b] Γ I R (fun v Γ' I' R' => Γ' = Γ ∧ I' = I ∧ R' = R ∧ ∃ i, v = some (.inl i) ∧ ((4 ≤ i ∧ i < I h 5 ∧ I (h + 1) i = top ∧ I (h + 2) i = a ∧ I (h + 3) i = b) ∨ (i = I h 5 ∧ ∀ j, 4 ≤ j → j < I h 5 → ¬ (I (h + 1) j = top ∧ I (h + 2) j = a ∧ I (h + 3) j = b)))) := by
  obtain ⟨t0, t1, t2, t3, t4, t5, t6, t7, t8, t9, t10, t11⟩ := id T
  have hz0 := TB.1
  have loop : ∀ (N : Nat) (i : Int), (I h 5 - i).toNat = N → 4 ≤ i → i ≤ I h 5 → (∀ j, 4 ≤ j → j < i → ¬ (I (h + 1) j = top ∧ I (h + 2) j = a ∧ I (h + 3) j = b)) → PW sc mX8_placeOf d 0 0 (fun v Γ' I' R' => Γ' = Γ ∧ I' = I ∧ R' = R ∧ ∃ i, v = some (.inl i) ∧ ((4 ≤ i ∧ i < I h 5 ∧ I (h + 1) i = top ∧ I (h + 2) i = a ∧ I (h + 3) i = b) ∨ (i = I h 5 ∧ ∀ j, 4 ≤ j → j < I h 5 → ¬ (I (h + 1) j = top ∧ I (h + 2) j = a ∧ I (h + 3) j = b)))) 3 [some (.inr (some h)), some (.inl top), some (.inl a), some (.inl b), some (.inl i)] [] Γ I R := by
    intro N
    induction N using Nat.strongRecOn with
    | _ N ih =>
      intro i hN hi hi2 hno
      by_cases hlt : i < I h 5
      · have hr := TB.hd (i := i) (by omega) hlt
        have next : ¬ (I (h + 1) i = top ∧ I (h + 2) i = a ∧ I (h + 3) i = b) → PW sc mX8_placeOf d 0 0 (fun v Γ' I' R' => Γ' = Γ ∧ I' = I ∧ R' = R ∧ ∃ i, v = some (.inl i) ∧ ((4 ≤ i ∧ i < I h 5 ∧ I (h + 1) i = top ∧ I (h + 2) i = a ∧ I (h + 3) i = b) ∨ (i = I h 5 ∧ ∀ j, 4 ≤ j → j < I h 5 → ¬ (I (h + 1) j = top ∧ I (h + 2) j = a ∧ I (h + 3) j = b)))) 58 [some (.inr (some h)), some (.inl top), some (.inl a), some (.inl b), some (.inl i)] [] Γ I R := by
          intro hne
          refine PW.iinc (pc := 58) dX8_placeOf_58 rfl (by decide) ?_
          refine PW.goto (pc := 61) (tgt := 3) dX8_placeOf_61 (by decide) ?_
          exact ih _ (by omega) (i + 1) rfl (by omega) (by omega) (fun j q1 q2 => by by_cases q : j = i; (· rw [q]; exact hne); (· exact hno j q1 (by omega)))
        refine PW.iload (pc := 3) dX8_placeOf_3 rfl ?_
        refine PW.aload_n (pc := 5) dX8_placeOf_5 rfl ?_
        refine PW.geti (pc := 6) dX8_placeOf_6 fl_X8_36 (by decide) (by first | assumption | rfl) ?_
        refine PW.icmp_ge (pc := 9) (tgt := 64) dX8_placeOf_9 (by decide) (by first | omega | exact rg_of _) (by first | omega | exact rg_of _) (fun c_9 => ?_) (fun c_9 => ?_)
        · omega
        · refine PW.iload (pc := 12) dX8_placeOf_12 rfl ?_
          refine PW.aload_n (pc := 14) dX8_placeOf_14 rfl ?_
          refine PW.getr (pc := 15) dX8_placeOf_15 fl_X8_15 (by first | assumption | rfl) (by first | assumption | rfl) ?_
          refine PW.alen (pc := 18) dX8_placeOf_18 (by first | assumption | rfl) ?_
          refine PW.icmp_ge (pc := 19) (tgt := 64) dX8_placeOf_19 (by decide) (by first | omega | exact rg_of _) (by first | omega | exact rg_of _) (fun c_19 => ?_) (fun c_19 => ?_)
          · omega
          · refine PW.aload_n (pc := 22) dX8_placeOf_22 rfl ?_
            refine PW.getr (pc := 23) dX8_placeOf_23 fl_X8_15 (by first | assumption | rfl) (by first | assumption | rfl) ?_
            refine PW.iload (pc := 26) dX8_placeOf_26 rfl ?_
            refine PW.iald (pc := 28) dX8_placeOf_28 (by first | assumption | rfl) (by omega) (by omega) (by omega) ?_
            refine PW.iload_n (pc := 29) dX8_placeOf_29 rfl ?_
            refine PW.icmp_ne (pc := 30) (tgt := 58) dX8_placeOf_30 (by decide) (by first | omega | exact rg_of _) (by first | omega | exact rg_of _) (fun c_30 => ?_) (fun c_30 => ?_)
            · exact next (by omega)
            · refine PW.aload_n (pc := 33) dX8_placeOf_33 rfl ?_
              refine PW.getr (pc := 34) dX8_placeOf_34 fl_X8_21 (by first | assumption | rfl) (by first | assumption | rfl) ?_
              refine PW.iload (pc := 37) dX8_placeOf_37 rfl ?_
              refine PW.iald (pc := 39) dX8_placeOf_39 (by first | assumption | rfl) (by omega) (by omega) (by omega) ?_
              refine PW.iload_n (pc := 40) dX8_placeOf_40 rfl ?_
              refine PW.icmp_ne (pc := 41) (tgt := 58) dX8_placeOf_41 (by decide) (by first | omega | exact rg_of _) (by first | omega | exact rg_of _) (fun c_41 => ?_) (fun c_41 => ?_)
              · exact next (by omega)
              · refine PW.aload_n (pc := 44) dX8_placeOf_44 rfl ?_
                refine PW.getr (pc := 45) dX8_placeOf_45 fl_X8_24 (by first | assumption | rfl) (by first | assumption | rfl) ?_
                refine PW.iload (pc := 48) dX8_placeOf_48 rfl ?_
                refine PW.iald (pc := 50) dX8_placeOf_50 (by first | assumption | rfl) (by omega) (by omega) (by omega) ?_
                refine PW.iload_n (pc := 51) dX8_placeOf_51 rfl ?_
                refine PW.icmp_ne (pc := 52) (tgt := 58) dX8_placeOf_52 (by decide) (by first | omega | exact rg_of _) (by first | omega | exact rg_of _) (fun c_52 => ?_) (fun c_52 => ?_)
                · exact next (by omega)
                · refine PW.iload (pc := 55) dX8_placeOf_55 rfl ?_
                  exact PW.ireturn (pc := 57) dX8_placeOf_57 rfl (⟨rfl, rfl, rfl, i, rfl, Or.inl ⟨hi, hlt, by omega, by omega, by omega⟩⟩)
      · have hiz : i = I h 5 := by omega
        refine PW.iload (pc := 3) dX8_placeOf_3 rfl ?_
        refine PW.aload_n (pc := 5) dX8_placeOf_5 rfl ?_
        refine PW.geti (pc := 6) dX8_placeOf_6 fl_X8_36 (by decide) (by first | assumption | rfl) ?_
        refine PW.icmp_ge (pc := 9) (tgt := 64) dX8_placeOf_9 (by decide) (by first | omega | exact rg_of _) (by first | omega | exact rg_of _) (fun c_9 => ?_) (fun c_9 => ?_)
        · refine PW.aload_n (pc := 64) dX8_placeOf_64 rfl ?_
          refine PW.geti (pc := 65) dX8_placeOf_65 fl_X8_36 (by decide) (by first | assumption | rfl) ?_
          exact PW.ireturn (pc := 68) dX8_placeOf_68 rfl (⟨rfl, rfl, rfl, I h 5, rfl, Or.inr ⟨rfl, fun j q1 q2 => hno j q1 (by omega)⟩⟩)
        · omega
  refine PC.ofPW (by decide) (Nat.le_of_ble_eq_true rfl) ?_
  refine PW.iconst (pc := 0) dX8_placeOf_0 ?_
  refine PW.istore (pc := 1) dX8_placeOf_1 (by decide) ?_
  exact loop _ 4 rfl (by omega) (by omega) (fun j q1 q2 => by omega)
set_option maxRecDepth 100000 in
set_option maxHeartbeats 4000000 in
theorem c_X8_make (d : Nat) {I : PIm} {h n : Nat} {tb : Int → Tm} {top a b0 b : Int} (T : TermsAt Γ R h n) (TB : Tab I h (I h 5) tb) (hz : I h 5 < n) (ht : top = 4 ∨ top = 5) (ha : 0 ≤ a ∧ a < I h 5) (hb : 0 ≤ b ∧ b < I h 5) (hb0 : Rg b0) (e4 : b = if top = 5 then b0 else a) {t : Tm} (et : t = if top = 5 then tg (tb a) (tb b) else tf (tb a)) :
    PC sc mX8_make (d + 2) 0 0 [.inr (some h), .inl top, .inl a, .inl b0] Γ I R (fun v Γ' I' R' => Γ' = Γ ∧ R' = R ∧ ∃ i tb', v = some (.inl i) ∧ Made I I' h tb tb' t i) := by
  obtain ⟨t0, t1, t2, t3, t4, t5, t6, t7, t8, t9, t10, t11⟩ := id T
  have hz0 := TB.1
  have h4 : top = 4 → b = a := fun q => by rw [e4, if_neg (by omega)]
  have da := TB.dp ha.1 ha.2
  have db := TB.dp hb.1 hb.2
  have fin : ∀ i : Int, ((4 ≤ i ∧ i < I h 5 ∧ I (h + 1) i = top ∧ I (h + 2) i = a ∧ I (h + 3) i = b) ∨ (i = I h 5 ∧ ∀ j, 4 ≤ j → j < I h 5 → ¬ (I (h + 1) j = top ∧ I (h + 2) j = a ∧ I (h + 3) j = b))) → PW sc mX8_make (d + 2) 0 0 (fun v Γ' I' R' => Γ' = Γ ∧ R' = R ∧ ∃ i tb', v = some (.inl i) ∧ Made I I' h tb tb' t i) 56 [some (.inr (some h)), some (.inl top), some (.inl a), some (.inl b0), some (.inl b), some (.inl i)] [] Γ I R := by
    rintro i (⟨i4, iz, e⟩ | ⟨hi, hno⟩)
    · refine PW.iload (pc := 56) dX8_make_56 rfl ?_
      refine PW.aload_n (pc := 58) dX8_make_58 rfl ?_
      refine PW.geti (pc := 59) dX8_make_59 fl_X8_36 (by decide) (by first | assumption | rfl) ?_
      refine PW.icmp_lt (pc := 62) (tgt := 155) dX8_make_62 (by decide) (by first | omega | exact rg_of _) (by first | omega | exact rg_of _) (fun c_62 => ?_) (fun c_62 => ?_)
      · refine PW.iload (pc := 155) dX8_make_155 rfl ?_
        exact PW.ireturn (pc := 157) dX8_make_157 rfl (⟨rfl, rfl, i, tb, rfl, by omega, TB.found ht et i4 iz e, TB, by omega, fun _ _ => rfl, fun j hj => Or.inl hj, fun _ _ _ => rfl, rfl⟩)
      · omega
    · have hex := TB.ext ht ha hb h4 et (TB.nowhere ht ha hb h4 et hno)
      have hM : Made I (apM I h (I h 5) top a b) h tb (fun j => if j = I h 5 then t else tb j) t (I h 5) := by
        refine ⟨by rw [apM_0, if_pos rfl]; omega, by simp, by rw [apM_0, if_pos rfl]; exact hex, by rw [apM_0, if_pos rfl]; omega, fun j hj => if_neg (by omega), fun j hj => ?_, fun p k hp => apM_o hp, by rw [apM_0, if_neg (by decide)]⟩
        rw [apM_0, if_pos rfl] at hj
        by_cases q : j = I h 5
        · exact Or.inr (if_pos q)
        · exact Or.inl (by omega)
      rw [← hi] at hM
      unfold apM at hM
      have e1 : ∀ j, pw_up (pw_up (pw_up I (h + 1) i top) (h + 2) i a) (h + 3) i b (h + 4) j = I (h + 4) j := fun j => by simp [pw_up]
      have e2 : ∀ j, pw_up (pw_up (pw_up (pw_up I (h + 1) i top) (h + 2) i a) (h + 3) i b) (h + 4) i (1 + max (I (h + 4) a) (I (h + 4) b)) (h + 5) j = I (h + 5) j := fun j => by simp [pw_up]
      refine PW.iload (pc := 56) dX8_make_56 rfl ?_
      refine PW.aload_n (pc := 58) dX8_make_58 rfl ?_
      refine PW.geti (pc := 59) dX8_make_59 fl_X8_36 (by decide) (by first | assumption | rfl) ?_
      refine PW.icmp_lt (pc := 62) (tgt := 155) dX8_make_62 (by decide) (by first | omega | exact rg_of _) (by first | omega | exact rg_of _) (fun c_62 => ?_) (fun c_62 => ?_)
      · omega
      · refine PW.aload_n (pc := 65) dX8_make_65 rfl ?_
        refine PW.getr (pc := 66) dX8_make_66 fl_X8_15 (by first | assumption | rfl) (by first | assumption | rfl) ?_
        refine PW.iload (pc := 69) dX8_make_69 rfl ?_
        refine PW.iload_n (pc := 71) dX8_make_71 rfl ?_
        refine PW.iast (pc := 72) dX8_make_72 (by first | assumption | rfl) (by omega) (by omega) (by omega) ?_
        refine PW.aload_n (pc := 73) dX8_make_73 rfl ?_
        refine PW.getr (pc := 74) dX8_make_74 fl_X8_21 (by first | assumption | rfl) (by first | assumption | rfl) ?_
        refine PW.iload (pc := 77) dX8_make_77 rfl ?_
        refine PW.iload_n (pc := 79) dX8_make_79 rfl ?_
        refine PW.iast (pc := 80) dX8_make_80 (by first | assumption | rfl) (by omega) (by omega) (by omega) ?_
        refine PW.aload_n (pc := 81) dX8_make_81 rfl ?_
        refine PW.getr (pc := 82) dX8_make_82 fl_X8_24 (by first | assumption | rfl) (by first | assumption | rfl) ?_
        refine PW.iload (pc := 85) dX8_make_85 rfl ?_
        refine PW.iload (pc := 87) dX8_make_87 rfl ?_
        refine PW.iast (pc := 89) dX8_make_89 (by first | assumption | rfl) (by omega) (by omega) (by omega) ?_
        refine PW.aload_n (pc := 90) dX8_make_90 rfl ?_
        refine PW.getr (pc := 91) dX8_make_91 fl_X8_27 (by first | assumption | rfl) (by first | assumption | rfl) ?_
        refine PW.iload (pc := 94) dX8_make_94 rfl ?_
        refine PW.iconst (pc := 96) dX8_make_96 ?_
        refine PW.aload_n (pc := 97) dX8_make_97 rfl ?_
        refine PW.getr (pc := 98) dX8_make_98 fl_X8_27 (by first | assumption | rfl) (by first | assumption | rfl) ?_
        refine PW.iload_n (pc := 101) dX8_make_101 rfl ?_
        refine PW.iald (pc := 102) dX8_make_102 (by first | assumption | rfl) (by omega) (by omega) (by omega) ?_
        refine PW.aload_n (pc := 103) dX8_make_103 rfl ?_
        refine PW.getr (pc := 104) dX8_make_104 fl_X8_27 (by first | assumption | rfl) (by first | assumption | rfl) ?_
        refine PW.iload (pc := 107) dX8_make_107 rfl ?_
        refine PW.iald (pc := 109) dX8_make_109 (by first | assumption | rfl) (by omega) (by omega) (by omega) ?_
        rw [e1, e1]
        refine PW.mmax (pc := 110) dX8_make_110 mm_X8_9 (by first | omega | exact rg_of _) (by first | omega | exact rg_of _) (Nat.le_of_ble_eq_true rfl) ?_
        refine PW.iadd (pc := 113) dX8_make_113 ?_
        refine PW.iast (pc := 114) dX8_make_114 (by first | assumption | rfl) (by omega) (by omega) (by omega) ?_
        refine PW.aload_n (pc := 115) dX8_make_115 rfl ?_
        refine PW.getr (pc := 116) dX8_make_116 fl_X8_30 (by first | assumption | rfl) (by first | assumption | rfl) ?_
        refine PW.iload (pc := 119) dX8_make_119 rfl ?_
        refine PW.iconst (pc := 121) dX8_make_121 ?_
        refine PW.aload_n (pc := 122) dX8_make_122 rfl ?_
        refine PW.getr (pc := 123) dX8_make_123 fl_X8_30 (by first | assumption | rfl) (by first | assumption | rfl) ?_
        refine PW.iload_n (pc := 126) dX8_make_126 rfl ?_
        refine PW.iald (pc := 127) dX8_make_127 (by first | assumption | rfl) (by omega) (by omega) (by omega) ?_
        rw [e2]
        refine PW.iadd (pc := 128) dX8_make_128 ?_
        refine PW.iload_n (pc := 129) dX8_make_129 rfl ?_
        refine PW.iconst (pc := 130) dX8_make_130 ?_
        refine PW.icmp_ne (pc := 131) (tgt := 144) dX8_make_131 (by decide) (by first | omega | exact rg_of _) (by first | omega | exact rg_of _) (fun c_131 => ?_) (fun c_131 => ?_)
        · refine PW.iconst (pc := 144) dX8_make_144 ?_
          refine PW.iadd (pc := 145) dX8_make_145 ?_
          refine PW.iast (pc := 146) dX8_make_146 (by first | assumption | rfl) (by omega) (by omega) (by omega) ?_
          refine PW.aload_n (pc := 147) dX8_make_147 rfl ?_
          refine PW.iload (pc := 148) dX8_make_148 rfl ?_
          refine PW.iconst (pc := 150) dX8_make_150 ?_
          refine PW.iadd (pc := 151) dX8_make_151 ?_
          refine PW.puti (pc := 152) dX8_make_152 fl_X8_36 (by first | assumption | rfl) ?_
          refine PW.iload (pc := 155) dX8_make_155 rfl ?_
          exact PW.ireturn (pc := 157) dX8_make_157 rfl (by first | (rw [if_pos (show top = 5 by omega)] at hM; exact ⟨rfl, rfl, i, _, rfl, hM⟩) | (rw [if_neg (show ¬ top = 5 by omega)] at hM; exact ⟨rfl, rfl, i, _, rfl, hM⟩))
        · refine PW.aload_n (pc := 134) dX8_make_134 rfl ?_
          refine PW.getr (pc := 135) dX8_make_135 fl_X8_30 (by first | assumption | rfl) (by first | assumption | rfl) ?_
          refine PW.iload (pc := 138) dX8_make_138 rfl ?_
          refine PW.iald (pc := 140) dX8_make_140 (by first | assumption | rfl) (by omega) (by omega) (by omega) ?_
          rw [e2]
          refine PW.goto (pc := 141) (tgt := 145) dX8_make_141 (by decide) ?_
          refine PW.iadd (pc := 145) dX8_make_145 ?_
          refine PW.iast (pc := 146) dX8_make_146 (by first | assumption | rfl) (by omega) (by omega) (by omega) ?_
          refine PW.aload_n (pc := 147) dX8_make_147 rfl ?_
          refine PW.iload (pc := 148) dX8_make_148 rfl ?_
          refine PW.iconst (pc := 150) dX8_make_150 ?_
          refine PW.iadd (pc := 151) dX8_make_151 ?_
          refine PW.puti (pc := 152) dX8_make_152 fl_X8_36 (by first | assumption | rfl) ?_
          refine PW.iload (pc := 155) dX8_make_155 rfl ?_
          exact PW.ireturn (pc := 157) dX8_make_157 rfl (by first | (rw [if_pos (show top = 5 by omega)] at hM; exact ⟨rfl, rfl, i, _, rfl, hM⟩) | (rw [if_neg (show ¬ top = 5 by omega)] at hM; exact ⟨rfl, rfl, i, _, rfl, hM⟩))
  refine PC.ofPW (by decide) (Nat.le_of_ble_eq_true rfl) ?_
  have hza : Rg a := by omega
  have hzb : Rg b := by omega
  have hzs : Rg (I h 5) := by omega
  by_cases hc : top = 5
  · obtain rfl := show b = b0 from e4.trans (if_pos hc)
    refine PW.iload_n (pc := 0) dX8_make_0 rfl ?_
    refine PW.iconst (pc := 1) dX8_make_1 ?_
    refine PW.icmp_ne (pc := 2) (tgt := 9) dX8_make_2 (by decide) (by first | omega | exact rg_of _) (by first | omega | exact rg_of _) (fun c_2 => ?_) (fun c_2 => ?_)
    · omega
    · refine PW.iload_n (pc := 5) dX8_make_5 rfl ?_
      refine PW.goto (pc := 6) (tgt := 10) dX8_make_6 (by decide) ?_
      refine PW.istore (pc := 10) dX8_make_10 (by decide) ?_
      refine PW.aload_n (pc := 12) dX8_make_12 rfl ?_
      refine PW.iload_n (pc := 13) dX8_make_13 rfl ?_
      refine PW.iload_n (pc := 14) dX8_make_14 rfl ?_
      refine PW.iload (pc := 15) dX8_make_15 rfl ?_
      refine PW.invV0 (pc := 17) dX8_make_17 mv_X8_43 (c_X8_placeOf (d + 1) T TB hz ht ha hb) (by first | assumption | rfl) rfl rfl (Nat.le_of_ble_eq_true rfl) ?_
      (rintro v Γ' I' R' ⟨rfl, rfl, rfl, i, rfl, hi⟩; have hi2 : 4 ≤ i ∧ i ≤ I' h 5 := by rcases hi with q | q <;> omega)
      refine PW.istore (pc := 20) dX8_make_20 (by decide) ?_
      refine PW.aload_n (pc := 22) dX8_make_22 rfl ?_
      refine PW.iload_n (pc := 23) dX8_make_23 rfl ?_
      refine PW.invV0x (pc := 24) dX8_make_24 mv_X8_47 (c_X8_has (d + 1) T hzs (by omega)) (by first | assumption | rfl) rfl rfl (Nat.le_of_ble_eq_true rfl) ?_
      refine PW.if_eq (pc := 27) (tgt := 54) dX8_make_27 (by decide) (rg_bi _) (fun c_27 => ?_) (fun c_27 => ?_)
      · exact absurd (by omega) (bi0 c_27)
      · refine PW.aload_n (pc := 30) dX8_make_30 rfl ?_
        refine PW.iload (pc := 31) dX8_make_31 rfl ?_
        refine PW.invV0x (pc := 33) dX8_make_33 mv_X8_47 (c_X8_has (d + 1) T hzs (by omega)) (by first | assumption | rfl) rfl rfl (Nat.le_of_ble_eq_true rfl) ?_
        refine PW.if_eq (pc := 36) (tgt := 54) dX8_make_36 (by decide) (rg_bi _) (fun c_36 => ?_) (fun c_36 => ?_)
        · exact absurd (by omega) (bi0 c_36)
        · refine PW.iload (pc := 39) dX8_make_39 rfl ?_
          refine PW.if_lt (pc := 41) (tgt := 54) dX8_make_41 (by decide) (by first | omega | exact rg_of _) (fun c_41 => ?_) (fun c_41 => ?_)
          · omega
          · refine PW.iload (pc := 44) dX8_make_44 rfl ?_
            refine PW.aload_n (pc := 46) dX8_make_46 rfl ?_
            refine PW.getr (pc := 47) dX8_make_47 fl_X8_15 (by first | assumption | rfl) (by first | assumption | rfl) ?_
            refine PW.alen (pc := 50) dX8_make_50 (by first | assumption | rfl) ?_
            refine PW.icmp_lt (pc := 51) (tgt := 56) dX8_make_51 (by decide) (by first | omega | exact rg_of _) (by first | omega | exact rg_of _) (fun c_51 => ?_) (fun c_51 => ?_)
            · exact fin i hi
            · omega
  · obtain rfl := show b = a from e4.trans (if_neg hc)
    refine PW.iload_n (pc := 0) dX8_make_0 rfl ?_
    refine PW.iconst (pc := 1) dX8_make_1 ?_
    refine PW.icmp_ne (pc := 2) (tgt := 9) dX8_make_2 (by decide) (by first | omega | exact rg_of _) (by first | omega | exact rg_of _) (fun c_2 => ?_) (fun c_2 => ?_)
    · refine PW.iload_n (pc := 9) dX8_make_9 rfl ?_
      refine PW.istore (pc := 10) dX8_make_10 (by decide) ?_
      refine PW.aload_n (pc := 12) dX8_make_12 rfl ?_
      refine PW.iload_n (pc := 13) dX8_make_13 rfl ?_
      refine PW.iload_n (pc := 14) dX8_make_14 rfl ?_
      refine PW.iload (pc := 15) dX8_make_15 rfl ?_
      refine PW.invV0 (pc := 17) dX8_make_17 mv_X8_43 (c_X8_placeOf (d + 1) T TB hz ht ha hb) (by first | assumption | rfl) rfl rfl (Nat.le_of_ble_eq_true rfl) ?_
      (rintro v Γ' I' R' ⟨rfl, rfl, rfl, i, rfl, hi⟩; have hi2 : 4 ≤ i ∧ i ≤ I' h 5 := by rcases hi with q | q <;> omega)
      refine PW.istore (pc := 20) dX8_make_20 (by decide) ?_
      refine PW.aload_n (pc := 22) dX8_make_22 rfl ?_
      refine PW.iload_n (pc := 23) dX8_make_23 rfl ?_
      refine PW.invV0x (pc := 24) dX8_make_24 mv_X8_47 (c_X8_has (d + 1) T hzs (by omega)) (by first | assumption | rfl) rfl rfl (Nat.le_of_ble_eq_true rfl) ?_
      refine PW.if_eq (pc := 27) (tgt := 54) dX8_make_27 (by decide) (rg_bi _) (fun c_27 => ?_) (fun c_27 => ?_)
      · exact absurd (by omega) (bi0 c_27)
      · refine PW.aload_n (pc := 30) dX8_make_30 rfl ?_
        refine PW.iload (pc := 31) dX8_make_31 rfl ?_
        refine PW.invV0x (pc := 33) dX8_make_33 mv_X8_47 (c_X8_has (d + 1) T hzs (by omega)) (by first | assumption | rfl) rfl rfl (Nat.le_of_ble_eq_true rfl) ?_
        refine PW.if_eq (pc := 36) (tgt := 54) dX8_make_36 (by decide) (rg_bi _) (fun c_36 => ?_) (fun c_36 => ?_)
        · exact absurd (by omega) (bi0 c_36)
        · refine PW.iload (pc := 39) dX8_make_39 rfl ?_
          refine PW.if_lt (pc := 41) (tgt := 54) dX8_make_41 (by decide) (by first | omega | exact rg_of _) (fun c_41 => ?_) (fun c_41 => ?_)
          · omega
          · refine PW.iload (pc := 44) dX8_make_44 rfl ?_
            refine PW.aload_n (pc := 46) dX8_make_46 rfl ?_
            refine PW.getr (pc := 47) dX8_make_47 fl_X8_15 (by first | assumption | rfl) (by first | assumption | rfl) ?_
            refine PW.alen (pc := 50) dX8_make_50 (by first | assumption | rfl) ?_
            refine PW.icmp_lt (pc := 51) (tgt := 56) dX8_make_51 (by decide) (by first | omega | exact rg_of _) (by first | omega | exact rg_of _) (fun c_51 => ?_) (fun c_51 => ?_)
            · exact fin i hi
            · omega
    · omega
set_option maxRecDepth 100000 in
set_option maxHeartbeats 4000000 in
theorem c_X8_headOf (d : Nat) {I : PIm} {h n : Nat} {i : Int} (T : TermsAt Γ R h n) (hz : I h 5 ≤ n) (h0 : 0 ≤ i) (h1 : i < I h 5) : PC sc mX8_headOf (d + 1) 0 0 [.inr (some h), .inl i] Γ I R (px (some (.inl (I (h + 1) i))) Γ I R) := by
  obtain ⟨t0, t1, t2, t3, t4, t5, t6, t7, t8, t9, t10, t11⟩ := id T
  refine PC.ofPW (by decide) (Nat.le_of_ble_eq_true rfl) ?_
  refine PW.aload_n (pc := 0) dX8_headOf_0 rfl ?_
  refine PW.iload_n (pc := 1) dX8_headOf_1 rfl ?_
  refine PW.invV0x (pc := 2) dX8_headOf_2 mv_X8_47 (c_X8_has d T (by omega) (by omega)) (by first | assumption | rfl) rfl rfl (Nat.le_of_ble_eq_true rfl) ?_
  refine PW.if_eq (pc := 5) (tgt := 17) dX8_headOf_5 (by decide) (rg_bi _) (fun c_5 => ?_) (fun c_5 => ?_)
  · exact absurd (by omega) (bi0 c_5)
  · refine PW.aload_n (pc := 8) dX8_headOf_8 rfl ?_
    refine PW.getr (pc := 9) dX8_headOf_9 fl_X8_15 (by first | assumption | rfl) (by first | assumption | rfl) ?_
    refine PW.iload_n (pc := 12) dX8_headOf_12 rfl ?_
    refine PW.iald (pc := 13) dX8_headOf_13 (by first | assumption | rfl) (by omega) (by omega) (by omega) ?_
    refine PW.goto (pc := 14) (tgt := 18) dX8_headOf_14 (by decide) ?_
    exact PW.ireturn (pc := 18) dX8_headOf_18 rfl (px_rfl)
set_option maxRecDepth 100000 in
set_option maxHeartbeats 4000000 in
theorem c_X8_leftOf (d : Nat) {I : PIm} {h n : Nat} {i : Int} (T : TermsAt Γ R h n) (hz : I h 5 ≤ n) (h0 : 0 ≤ i) (h1 : i < I h 5) : PC sc mX8_leftOf (d + 1) 0 0 [.inr (some h), .inl i] Γ I R (px (some (.inl (I (h + 2) i))) Γ I R) := by
  obtain ⟨t0, t1, t2, t3, t4, t5, t6, t7, t8, t9, t10, t11⟩ := id T
  refine PC.ofPW (by decide) (Nat.le_of_ble_eq_true rfl) ?_
  refine PW.aload_n (pc := 0) dX8_leftOf_0 rfl ?_
  refine PW.iload_n (pc := 1) dX8_leftOf_1 rfl ?_
  refine PW.invV0x (pc := 2) dX8_leftOf_2 mv_X8_47 (c_X8_has d T (by omega) (by omega)) (by first | assumption | rfl) rfl rfl (Nat.le_of_ble_eq_true rfl) ?_
  refine PW.if_eq (pc := 5) (tgt := 17) dX8_leftOf_5 (by decide) (rg_bi _) (fun c_5 => ?_) (fun c_5 => ?_)
  · exact absurd (by omega) (bi0 c_5)
  · refine PW.aload_n (pc := 8) dX8_leftOf_8 rfl ?_
    refine PW.getr (pc := 9) dX8_leftOf_9 fl_X8_21 (by first | assumption | rfl) (by first | assumption | rfl) ?_
    refine PW.iload_n (pc := 12) dX8_leftOf_12 rfl ?_
    refine PW.iald (pc := 13) dX8_leftOf_13 (by first | assumption | rfl) (by omega) (by omega) (by omega) ?_
    refine PW.goto (pc := 14) (tgt := 18) dX8_leftOf_14 (by decide) ?_
    exact PW.ireturn (pc := 18) dX8_leftOf_18 rfl (px_rfl)
set_option maxRecDepth 100000 in
set_option maxHeartbeats 4000000 in
theorem c_X8_rightOf (d : Nat) {I : PIm} {h n : Nat} {i : Int} (T : TermsAt Γ R h n) (hz : I h 5 ≤ n) (h0 : 0 ≤ i) (h1 : i < I h 5) : PC sc mX8_rightOf (d + 1) 0 0 [.inr (some h), .inl i] Γ I R (px (some (.inl (I (h + 3) i))) Γ I R) := by
  obtain ⟨t0, t1, t2, t3, t4, t5, t6, t7, t8, t9, t10, t11⟩ := id T
  refine PC.ofPW (by decide) (Nat.le_of_ble_eq_true rfl) ?_
  refine PW.aload_n (pc := 0) dX8_rightOf_0 rfl ?_
  refine PW.iload_n (pc := 1) dX8_rightOf_1 rfl ?_
  refine PW.invV0x (pc := 2) dX8_rightOf_2 mv_X8_47 (c_X8_has d T (by omega) (by omega)) (by first | assumption | rfl) rfl rfl (Nat.le_of_ble_eq_true rfl) ?_
  refine PW.if_eq (pc := 5) (tgt := 17) dX8_rightOf_5 (by decide) (rg_bi _) (fun c_5 => ?_) (fun c_5 => ?_)
  · exact absurd (by omega) (bi0 c_5)
  · refine PW.aload_n (pc := 8) dX8_rightOf_8 rfl ?_
    refine PW.getr (pc := 9) dX8_rightOf_9 fl_X8_24 (by first | assumption | rfl) (by first | assumption | rfl) ?_
    refine PW.iload_n (pc := 12) dX8_rightOf_12 rfl ?_
    refine PW.iald (pc := 13) dX8_rightOf_13 (by first | assumption | rfl) (by omega) (by omega) (by omega) ?_
    refine PW.goto (pc := 14) (tgt := 18) dX8_rightOf_14 (by decide) ?_
    exact PW.ireturn (pc := 18) dX8_rightOf_18 rfl (px_rfl)
set_option maxRecDepth 100000 in
set_option maxHeartbeats 4000000 in
theorem c_X8_lettersOf (d : Nat) {I : PIm} {h n : Nat} {i : Int} (T : TermsAt Γ R h n) (hz : I h 5 ≤ n) (h0 : 0 ≤ i) (h1 : i < I h 5) : PC sc mX8_lettersOf (d + 1) 0 0 [.inr (some h), .inl i] Γ I R (px (some (.inl (I (h + 5) i))) Γ I R) := by
  obtain ⟨t0, t1, t2, t3, t4, t5, t6, t7, t8, t9, t10, t11⟩ := id T
  refine PC.ofPW (by decide) (Nat.le_of_ble_eq_true rfl) ?_
  refine PW.aload_n (pc := 0) dX8_lettersOf_0 rfl ?_
  refine PW.iload_n (pc := 1) dX8_lettersOf_1 rfl ?_
  refine PW.invV0x (pc := 2) dX8_lettersOf_2 mv_X8_47 (c_X8_has d T (by omega) (by omega)) (by first | assumption | rfl) rfl rfl (Nat.le_of_ble_eq_true rfl) ?_
  refine PW.if_eq (pc := 5) (tgt := 17) dX8_lettersOf_5 (by decide) (rg_bi _) (fun c_5 => ?_) (fun c_5 => ?_)
  · exact absurd (by omega) (bi0 c_5)
  · refine PW.aload_n (pc := 8) dX8_lettersOf_8 rfl ?_
    refine PW.getr (pc := 9) dX8_lettersOf_9 fl_X8_30 (by first | assumption | rfl) (by first | assumption | rfl) ?_
    refine PW.iload_n (pc := 12) dX8_lettersOf_12 rfl ?_
    refine PW.iald (pc := 13) dX8_lettersOf_13 (by first | assumption | rfl) (by omega) (by omega) (by omega) ?_
    refine PW.goto (pc := 14) (tgt := 18) dX8_lettersOf_14 (by decide) ?_
    exact PW.ireturn (pc := 18) dX8_lettersOf_18 rfl (px_rfl)
set_option maxRecDepth 100000 in
set_option maxHeartbeats 4000000 in
theorem c_X8_depthOf (d : Nat) {I : PIm} {h n : Nat} {tb : Int → Tm} {i : Int} (T : TermsAt Γ R h n) (TB : Tab I h (I h 5) tb) (hz : I h 5 ≤ n) (h0 : 0 ≤ i) (h1 : i < I h 5) : PC sc mX8_depthOf (d + 1) 0 0 [.inr (some h), .inl i] Γ I R (px (some (.inl (dep (tb i)))) Γ I R) := by
  obtain ⟨t0, t1, t2, t3, t4, t5, t6, t7, t8, t9, t10, t11⟩ := id T
  have hr := (TB.row h0 h1).2.2.1
  rw [← hr]
  refine PC.ofPW (by decide) (Nat.le_of_ble_eq_true rfl) ?_
  refine PW.aload_n (pc := 0) dX8_depthOf_0 rfl ?_
  refine PW.iload_n (pc := 1) dX8_depthOf_1 rfl ?_
  refine PW.invV0x (pc := 2) dX8_depthOf_2 mv_X8_47 (c_X8_has d T (by omega) (by omega)) (by first | assumption | rfl) rfl rfl (Nat.le_of_ble_eq_true rfl) ?_
  refine PW.if_eq (pc := 5) (tgt := 17) dX8_depthOf_5 (by decide) (rg_bi _) (fun c_5 => ?_) (fun c_5 => ?_)
  · exact absurd (by omega) (bi0 c_5)
  · refine PW.aload_n (pc := 8) dX8_depthOf_8 rfl ?_
    refine PW.getr (pc := 9) dX8_depthOf_9 fl_X8_27 (by first | assumption | rfl) (by first | assumption | rfl) ?_
    refine PW.iload_n (pc := 12) dX8_depthOf_12 rfl ?_
    refine PW.iald (pc := 13) dX8_depthOf_13 (by first | assumption | rfl) (by omega) (by omega) (by omega) ?_
    refine PW.goto (pc := 14) (tgt := 18) dX8_depthOf_14 (by decide) ?_
    exact PW.ireturn (pc := 18) dX8_depthOf_18 rfl (px_rfl)
set_option maxRecDepth 100000 in
set_option maxHeartbeats 4000000 in
theorem c_X8_signOf (d : Nat) {I : PIm} {x : Int} (hx : Rg x) : PC sc mX8_signOf d 0 0 [.inl x] Γ I R (px (some (.inl (if x = 4 then 102 else if x = 5 then 103 else 97 + x))) Γ I R) := by
  refine PC.ofPW (by decide) (Nat.le_of_ble_eq_true rfl) ?_
  refine PW.iload_n (pc := 0) dX8_signOf_0 rfl ?_
  refine PW.iconst (pc := 1) dX8_signOf_1 ?_
  refine PW.icmp_ne (pc := 2) (tgt := 10) dX8_signOf_2 (by decide) (by first | omega | exact rg_of _) (by first | omega | exact rg_of _) (fun c_2 => ?_) (fun c_2 => ?_)
  · refine PW.iload_n (pc := 10) dX8_signOf_10 rfl ?_
    refine PW.iconst (pc := 11) dX8_signOf_11 ?_
    refine PW.icmp_ne (pc := 12) (tgt := 20) dX8_signOf_12 (by decide) (by first | omega | exact rg_of _) (by first | omega | exact rg_of _) (fun c_12 => ?_) (fun c_12 => ?_)
    · refine PW.bipush (pc := 20) dX8_signOf_20 (by decide) ?_
      refine PW.iload_n (pc := 22) dX8_signOf_22 rfl ?_
      refine PW.iadd (pc := 23) dX8_signOf_23 ?_
      exact PW.ireturn (pc := 24) dX8_signOf_24 rfl (by first | (rw [if_pos c_2]; exact px_rfl) | (rw [if_neg c_2, if_pos c_12]; exact px_rfl) | (rw [if_neg c_2, if_neg c_12]; exact px_rfl))
    · refine PW.bipush (pc := 15) dX8_signOf_15 (by decide) ?_
      refine PW.goto (pc := 17) (tgt := 24) dX8_signOf_17 (by decide) ?_
      exact PW.ireturn (pc := 24) dX8_signOf_24 rfl (by first | (rw [if_pos c_2]; exact px_rfl) | (rw [if_neg c_2, if_pos c_12]; exact px_rfl) | (rw [if_neg c_2, if_neg c_12]; exact px_rfl))
  · refine PW.bipush (pc := 5) dX8_signOf_5 (by decide) ?_
    refine PW.goto (pc := 7) (tgt := 24) dX8_signOf_7 (by decide) ?_
    exact PW.ireturn (pc := 24) dX8_signOf_24 rfl (by first | (rw [if_pos c_2]; exact px_rfl) | (rw [if_neg c_2, if_pos c_12]; exact px_rfl) | (rw [if_neg c_2, if_neg c_12]; exact px_rfl))
end TERMS
