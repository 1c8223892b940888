section BITSP
set_option maxRecDepth 100000 in
set_option maxHeartbeats 1000000 in
theorem sh_amt : ∀ k : Fin 32, ((Int32.ofInt (k.val : Int) &&& 31).toBitVec.smod 32).toNat = k.val := by decide +kernel
set_option maxRecDepth 100000 in
set_option maxHeartbeats 1000000 in
theorem shr_div {x : Int} (h0 : 0 ≤ x) (h1 : x ≤ 2147483647) (k : Nat) (hk : k < 32) : pw_shr x (k : Int) = x / 2 ^ k := by
  have hx : Rg x := by omega
  unfold pw_shr
  show (BitVec.sshiftRight' (Int32.ofInt x).toBitVec ((Int32.ofInt (k : Int) &&& 31).toBitVec.smod 32)).toInt = _
  rw [BitVec.toInt_sshiftRight', sh_amt ⟨k, hk⟩, Int32.toInt_toBitVec, rg_toInt hx, Int.shiftRight_eq_div_pow]
  simp
set_option maxRecDepth 100000 in
set_option maxHeartbeats 1000000 in
theorem ofi_nat {x : Int} (h0 : 0 ≤ x) (h1 : x ≤ 2147483647) : (Int32.ofInt x).toBitVec.toNat = x.toNat := by
  rw [Int32.toBitVec_ofInt, BitVec.toNat_ofInt]
  have e32 : ((2 ^ 32 : Nat) : Int) = 4294967296 := by decide
  have : x % ((2 ^ 32 : Nat) : Int) = x := Int.emod_eq_of_lt h0 (by omega)
  rw [this]
set_option maxRecDepth 100000 in
set_option maxHeartbeats 1000000 in
theorem and_mask {x : Int} (h0 : 0 ≤ x) (h1 : x ≤ 2147483647) (m : Nat) (hm : m ≤ 20) : pw_and x ((2 ^ m - 1 : Nat) : Int) = x % ((2 ^ m : Nat) : Int) := by
  have hp : 2 ^ m ≤ 2 ^ 20 := Nat.pow_le_pow_right (by decide) hm
  have e20 : 2 ^ 20 = 1048576 := by decide
  have hpos : 0 < 2 ^ m := Nat.two_pow_pos m
  unfold pw_and
  show ((Int32.ofInt x).toBitVec &&& (Int32.ofInt ((2 ^ m - 1 : Nat) : Int)).toBitVec).toInt = _
  rw [BitVec.toInt_and, ofi_nat h0 h1, ofi_nat (by omega) (by omega), show (((2 ^ m - 1 : Nat) : Int)).toNat = 2 ^ m - 1 by omega, Nat.and_two_pow_sub_one_eq_mod]
  have hlt : x.toNat % 2 ^ m < 2 ^ m := Nat.mod_lt _ hpos
  have e : ((x.toNat % 2 ^ m : Nat) : Int) = x % ((2 ^ m : Nat) : Int) := by
    rw [Int.natCast_emod, Int.toNat_of_nonneg h0]
  have e32 : (((2 ^ 32 : Nat) : Int)) = 4294967296 := by decide
  rw [Int.bmod_eq_of_le (by omega) (by omega), e]
set_option maxRecDepth 100000 in
set_option maxHeartbeats 1000000 in
theorem and_1 {x : Int} (h0 : 0 ≤ x) (h1 : x ≤ 2147483647) : pw_and x 1 = x % 2 := and_mask h0 h1 1 (by decide)
set_option maxRecDepth 100000 in
set_option maxHeartbeats 1000000 in
theorem and_3 {x : Int} (h0 : 0 ≤ x) (h1 : x ≤ 2147483647) : pw_and x 3 = x % 4 := and_mask h0 h1 2 (by decide)
set_option maxRecDepth 100000 in
set_option maxHeartbeats 1000000 in
theorem and_7 {x : Int} (h0 : 0 ≤ x) (h1 : x ≤ 2147483647) : pw_and x 7 = x % 8 := and_mask h0 h1 3 (by decide)
/-- programs that are tried: their figures of base eight -/
def dg (s : Nat) (num k : Int) : Int := pw_and (pw_shr num (3 * ((s : Int) - 1 - k))) 7
set_option maxRecDepth 100000 in
set_option maxHeartbeats 1000000 in
theorem dg_eq {s : Nat} {num k : Int} (hs : s ≤ 4) (h0 : 0 ≤ num) (h1 : num ≤ 2147483647) (k0 : 0 ≤ k) (k1 : k < s) : dg s num k = num / 2 ^ (3 * (s - 1 - k.toNat)) % 8 := by
  unfold dg
  have e : 3 * ((s : Int) - 1 - k) = ((3 * (s - 1 - k.toNat) : Nat) : Int) := by omega
  rw [e, shr_div h0 h1 _ (by omega), and_7]
  · exact Int.ediv_nonneg h0 (Int.pow_nonneg (by decide))
  · exact Int.le_trans (Int.ediv_le_self _ h0) h1
set_option maxRecDepth 100000 in
set_option maxHeartbeats 1000000 in
theorem dg_rg {s : Nat} {num k : Int} (hs : s ≤ 4) (h0 : 0 ≤ num) (h1 : num ≤ 2147483647) (k0 : 0 ≤ k) (k1 : k < s) : 0 ≤ dg s num k ∧ dg s num k ≤ 7 := by
  rw [dg_eq hs h0 h1 k0 k1]
  omega
def bc (o : Int) : Int := 128 + 16 * (o / 4) + 4 * (o / 2 % 2) + o % 2
def bP (s : Nat) (num : Int) : Int → Int := fun k => bc (dg s num k)
set_option maxRecDepth 100000 in
set_option maxHeartbeats 1000000 in
theorem bc_pw : ∀ o : Fin 8, pw_or (pw_or (pw_or (pw_shl 2 6) (pw_shl (pw_and (pw_shr (o.val : Int) 2) 1) 4)) (pw_shl (pw_and (pw_shr (o.val : Int) 1) 1) 2)) (pw_and (o.val : Int) 1) = bc (o.val : Int) ∧ okc (bc (o.val : Int)) ∧ kd (bc (o.val : Int)) = 2 ∧ dd (bc (o.val : Int)) = pw_shr (o.val : Int) 2 ∧ ss (bc (o.val : Int)) = pw_and (pw_shr (o.val : Int) 1) 1 ∧ tt (bc (o.val : Int)) = pw_and (o.val : Int) 1 ∧ 4 * dd (bc (o.val : Int)) + 2 * ss (bc (o.val : Int)) + tt (bc (o.val : Int)) = (o.val : Int) := by decide +kernel
set_option maxRecDepth 100000 in
set_option maxHeartbeats 1000000 in
theorem bc_of {o : Int} (h0 : 0 ≤ o) (h1 : o ≤ 7) : pw_or (pw_or (pw_or (pw_shl 2 6) (pw_shl (pw_and (pw_shr o 2) 1) 4)) (pw_shl (pw_and (pw_shr o 1) 1) 2)) (pw_and o 1) = bc o ∧ okc (bc o) ∧ kd (bc o) = 2 ∧ dd (bc o) = pw_shr o 2 ∧ ss (bc o) = pw_and (pw_shr o 1) 1 ∧ tt (bc o) = pw_and o 1 ∧ 4 * dd (bc o) + 2 * ss (bc o) + tt (bc o) = o := by
  have := bc_pw ⟨o.toNat, by omega⟩
  simpa only [Int.toNat_of_nonneg h0] using this
/-! forwards: where nothing is hidden, PIPED is PLAIN -/
set_option maxRecDepth 100000 in
set_option maxHeartbeats 1000000 in
theorem hid_bits : ∀ lag : Fin 4, ∀ fw : Fin 8, ∀ x : Fin 3, pw_and (fw.val : Int) (pw_shl 1 (lag.val : Int) - 1) = pw_shl 1 (lag.val : Int) - 1 → x.val < lag.val → pw_and (pw_shr (fw.val : Int) (x.val : Int)) 1 = 1 := by decide +kernel
set_option maxRecDepth 100000 in
set_option maxHeartbeats 1000000 in
theorem hid_vis {lag fw x : Int} (hl : 0 ≤ lag ∧ lag ≤ 3) (hf : 0 ≤ fw ∧ fw ≤ 7) (h : pw_and fw (pw_shl 1 lag - 1) = pw_shl 1 lag - 1) (hx : 1 ≤ x) : vis lag fw x := by
  by_cases q : lag < x
  · exact Or.inl q
  · refine Or.inr ⟨hx, by omega, ?_⟩
    have := hid_bits ⟨lag.toNat, by omega⟩ ⟨fw.toNat, by omega⟩ ⟨(x - 1).toNat, by omega⟩
    simp only [Int.toNat_of_nonneg hl.1, Int.toNat_of_nonneg hf.1, Int.toNat_of_nonneg (show 0 ≤ x - 1 by omega)] at this
    exact this h (by omega)
set_option maxRecDepth 100000 in
set_option maxHeartbeats 1000000 in
theorem rdT_hit {P : Int → Int} {M : Int → Tm} {V : Int → Bool} : ∀ (k : Nat) (r : Int), (lat P k r < 0 ∨ V (lat P k r) = true) → rdT P M V k r = rdT P M (fun _ => true) k r
  | 0, r, _ => rfl
  | k + 1, r, h => by
    unfold lat at h
    rw [rdT, rdT]
    by_cases q : mks P (k : Int) r
    · rw [if_pos q] at h
      rw [if_pos ⟨q, h.resolve_left (by omega)⟩, if_pos ⟨q, rfl⟩]
    · rw [if_neg q] at h
      rw [if_neg (fun w => q w.1), if_neg (fun w => q w.1), rdT_hit k r h]
set_option maxRecDepth 100000 in
set_option maxHeartbeats 1000000 in
theorem wt_rdy (P : Int → Int) {lag fw w : Int} (hl : lag ≤ 3) (hw : w = 1) (k : Nat) : rdy P (St P lag fw w) lag fw k (St P lag fw w (k : Int)) := by
  have e := St_eq P lag fw w k
  rw [if_pos hw] at e
  rw [e]
  have h3 := rdy_3 P (fw := fw) (w := w) hl k
  unfold wt
  split
  next h => rw [Int.add_zero]; exact h
  next h =>
    split
    next h => exact h
    next h =>
      split
      next h => exact h
      next h => exact h3
set_option maxRecDepth 100000 in
set_option maxHeartbeats 1000000 in
theorem piM_plM {P : Int → Int} {lag fw w : Int} {n : Nat} (hl : 0 ≤ lag ∧ lag ≤ 3) (hf : 0 ≤ fw ∧ fw ≤ 7) (h : w = 1 ∨ pw_and fw (pw_shl 1 lag - 1) = pw_shl 1 lag - 1) (hP : ∀ k : Int, 0 ≤ k → k < n → okc (P k)) : ∀ m : Nat, m ≤ n → ∀ k : Int, 0 ≤ k → k < m → kd (P k) ≠ 0 → piM P lag fw w k = plM P k := by
  have key : ∀ k : Nat, k < n → kd (P (k : Int)) ≠ 0 → (∀ j : Int, 0 ≤ j → j < k → kd (P j) ≠ 0 → piM P lag fw w j = plM P j) → piM P lag fw w (k : Int) = plM P (k : Int) := by
    intro k hkn hk ih
    have hk2 := kd_rg (hP (k : Int) (by omega) (by omega))
    have hit' : ∀ r, (hit P (St P lag fw w) lag fw k (St P lag fw w (k : Int)) r) → rdT P (piM P lag fw w) (Vp P lag fw w (k : Int)) k r = rdT P (plM P) (fun _ => true) k r := by
      intro r hh
      have hr := lat_rg P k r
      rw [rdT_hit k r (hh.imp id (fun q => by unfold Vp; simpa using q))]
      rw [rdT_lat, rdT_lat]
      split
      · rfl
      · rename_i q
        exact ih _ (by omega) hr.2 (lat_mks P k r (by omega)).1
    have hall : pw_and fw (pw_shl 1 lag - 1) = pw_shl 1 lag - 1 → ∀ r, hit P (St P lag fw w) lag fw k (St P lag fw w (k : Int)) r := by
      intro hh r
      have hr := lat_rg P k r
      by_cases q : lat P k r < 0
      · exact Or.inl q
      · refine Or.inr (hid_vis hl hf hh ?_)
        have := St_lt P lag fw w (j := lat P k r) (k := (k : Int)) (by omega) (by omega)
        omega
    have hs : kd (P (k : Int)) < 1 ∨ hit P (St P lag fw w) lag fw k (St P lag fw w (k : Int)) (ss (P (k : Int))) := by
      rcases h with h | h
      · exact (wt_rdy P hl.2 h k).1
      · exact Or.inr (hall h _)
    have ht : kd (P (k : Int)) < 2 ∨ hit P (St P lag fw w) lag fw k (St P lag fw w (k : Int)) (tt (P (k : Int))) := by
      rcases h with h | h
      · exact (wt_rdy P hl.2 h k).2
      · exact Or.inr (hall h _)
    rw [piM_eq, plM_eq, hit' _ (hs.resolve_left (by omega))]
    unfold mkT plT
    by_cases k1 : kd (P (k : Int)) = 1
    · rw [if_pos k1, if_pos k1]
    · rw [if_neg k1, if_neg k1, hit' _ (ht.resolve_left (by omega))]
  intro m
  induction m with
  | zero => intro _ k k0 k1; omega
  | succ m ih =>
    intro hm k k0 k1 hk
    by_cases q : k = (m : Int)
    · subst q
      exact key m (by omega) hk (ih (by omega))
    · exact ih (by omega) k k0 (by omega) hk
set_option maxRecDepth 100000 in
set_option maxHeartbeats 1000000 in
theorem bsum_zero : ∀ (f : Int → Bool) (k : Nat), (∀ j : Int, 0 ≤ j → j < k → f j = false) → bsum f k = 0
  | _, 0, _ => rfl
  | f, k + 1, h => by
    rw [bsum, bsum_zero f k (fun j j0 j1 => h j j0 (by omega)), h k (by omega) (by omega)]
    rfl
set_option maxRecDepth 100000 in
set_option maxHeartbeats 1000000 in
theorem bsum_pos : ∀ (f : Int → Bool) (k : Nat) (j : Int), 0 ≤ j → j < k → f j = true → bsum f k ≠ 0
  | _, 0, j, j0, j1, _ => by omega
  | f, k + 1, j, j0, j1, h => by
    have hr := bsum_rg f k
    have hp : (0 : Int) < 2 ^ k := Int.pow_pos (by decide)
    rw [bsum]
    by_cases q : j = (k : Int)
    · rw [← q, if_pos h]; omega
    · have := bsum_pos f k j j0 (by omega) h
      split <;> omega
set_option maxRecDepth 100000 in
set_option maxHeartbeats 1000000 in
theorem dif_hides {P : Int → Int} {lag fw w : Int} {n : Nat} (hl : 0 ≤ lag ∧ lag ≤ 3) (hf : 0 ≤ fw ∧ fw ≤ 7) (h : w = 1 ∨ pw_and fw (pw_shl 1 lag - 1) = pw_shl 1 lag - 1) (hP : ∀ k : Int, 0 ≤ k → k < n → okc (P k)) : dif P lag fw w n = 0 := by
  refine bsum_zero _ 4 (fun r r0 r1 => ?_)
  have e : plT P n r = piT P lag fw w n r := by
    unfold plT piT
    rw [rdT_lat, rdT_lat]
    have hr := lat_rg P n r
    split
    · rfl
    · rename_i q
      exact (piM_plM hl hf h hP n (Nat.le_refl _) _ (by omega) hr.2 (lat_mks P n r (by omega)).1).symm
  exact @decide_eq_false _ (Classical.propDecidable _) (fun q => q e)
set_option maxRecDepth 100000 in
set_option maxHeartbeats 1000000 in
theorem or_nat {x y : Int} (x0 : 0 ≤ x) (x1 : x < 65536) (y0 : 0 ≤ y) (y1 : y < 65536) : pw_or x y = ((x.toNat ||| y.toNat : Nat) : Int) := by
  unfold pw_or
  show ((Int32.ofInt x).toBitVec ||| (Int32.ofInt y).toBitVec).toInt = _
  rw [BitVec.toInt_or, ofi_nat x0 (by omega), ofi_nat y0 (by omega)]
  have hlt : x.toNat ||| y.toNat < 2 ^ 16 := Nat.or_lt_two_pow (by omega) (by omega)
  have e16 : 2 ^ 16 = 65536 := by decide
  have e32 : (((2 ^ 32 : Nat) : Int)) = 4294967296 := by decide
  rw [Int.bmod_eq_of_le (by omega) (by omega)]
set_option maxRecDepth 100000 in
set_option maxHeartbeats 1000000 in
theorem shl_12 : ∀ m : Fin 5, pw_shl (m.val : Int) 12 = 4096 * (m.val : Int) := by decide +kernel
set_option maxRecDepth 100000 in
set_option maxHeartbeats 1000000 in
theorem its_eq {m : Nat} {num : Int} (hm : m ≤ 4) (n0 : 0 ≤ num) (n1 : num < 4096) : pw_or (pw_shl (m : Int) 12) num = 4096 * (m : Int) + num := by
  rw [shl_12 ⟨m, by omega⟩, or_nat (by dsimp only; omega) (by dsimp only; omega) n0 (by omega)]
  have h := Nat.two_pow_add_eq_or_of_lt (i := 12) (b := num.toNat) (by omega) m
  have e : ((4096 : Int) * (m : Int)).toNat = 2 ^ 12 * m := by omega
  dsimp only
  rw [e, ← h]
  omega
set_option maxRecDepth 100000 in
set_option maxHeartbeats 1000000 in
theorem its_hi {m : Nat} {num : Int} (hm : m ≤ 4) (n0 : 0 ≤ num) (n1 : num < 4096) : pw_shr (4096 * (m : Int) + num) 12 = m := by
  have := shr_div (x := 4096 * (m : Int) + num) (by omega) (by omega) 12 (by omega)
  rw [show ((12 : Nat) : Int) = 12 by rfl] at this
  rw [this, show (2 : Int) ^ 12 = 4096 by decide]
  omega
set_option maxRecDepth 100000 in
set_option maxHeartbeats 1000000 in
theorem its_dg {m : Nat} {num k : Int} (hm : m ≤ 4) (n0 : 0 ≤ num) (n1 : num < 4096) (k0 : 0 ≤ k) (k1 : k < m) : pw_and (pw_shr (4096 * (m : Int) + num) (3 * ((m : Int) - 1 - k))) 7 = dg m num k := by
  rw [dg_eq hm n0 (by omega) k0 k1]
  obtain ⟨e, he, he4⟩ : ∃ e : Nat, (m : Int) - 1 - k = e ∧ e ≤ 3 := ⟨((m : Int) - 1 - k).toNat, by omega, by omega⟩
  have e2 : m - 1 - k.toNat = e := by omega
  rw [he, e2, show (3 : Int) * (e : Int) = ((3 * e : Nat) : Int) by omega, shr_div (by omega) (by omega) (3 * e) (by omega), and_7 (Int.ediv_nonneg (by omega) (Int.le_of_lt (Int.pow_pos (by omega)))) (by
    have := Int.ediv_le_self (a := 4096 * (m : Int) + num) (2 ^ (3 * e)) (by omega)
    omega)]
  rcases (show e = 0 ∨ e = 1 ∨ e = 2 ∨ e = 3 by omega) with rfl | rfl | rfl | rfl
  · rw [show (2 : Int) ^ (3 * 0) = 1 by decide]; omega
  · rw [show (2 : Int) ^ (3 * 1) = 8 by decide]; omega
  · rw [show (2 : Int) ^ (3 * 2) = 64 by decide]; omega
  · rw [show (2 : Int) ^ (3 * 3) = 512 by decide]; omega
end BITSP
