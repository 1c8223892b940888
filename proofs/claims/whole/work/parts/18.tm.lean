section TMS
/-! TERMS: a constant, f of a term, g of two: told by three of the library's own kinds -/
abbrev Tm : Type := Jvm.Term
def tc (i : Int) : Tm := .arg i.toNat
def tf (t : Tm) : Tm := .length t
def tg (a b : Tm) : Tm := .elem a b
theorem tf_inj {a b : Tm} (h : tf a = tf b) : a = b := by
  unfold tf at h
  injection h
theorem tg_inj {a b a' b' : Tm} (h : tg a b = tg a' b') : a = a' ∧ b = b' := by
  unfold tg at h
  injection h with h1 h2
  exact ⟨h1, h2⟩
theorem tc_inj {i j : Int} (hi : 0 ≤ i) (hj : 0 ≤ j) (h : tc i = tc j) : i = j := by
  unfold tc at h
  injection h with h1
  omega
theorem tc_tf {i : Int} {a : Tm} : tc i ≠ tf a := by
  unfold tc tf
  exact fun h => by cases h
theorem tc_tg {i : Int} {a b : Tm} : tc i ≠ tg a b := by
  unfold tc tg
  exact fun h => by cases h
theorem tf_tg {a b c : Tm} : tf a ≠ tg b c := by
  unfold tf tg
  exact fun h => by cases h
def dep : Tm → Int
  | .length t => 1 + dep t
  | .elem a b => 1 + max (dep a) (dep b)
  | _ => 0
def ltrs : Tm → List Int
  | .arg i => [97 + (i : Int)]
  | .length t => 102 :: ltrs t
  | .elem a b => 103 :: (ltrs a ++ ltrs b)
  | _ => [0]
def siz (t : Tm) : Int := (ltrs t).length
theorem dep_tc (i : Int) : dep (tc i) = 0 := rfl
theorem dep_tf (t : Tm) : dep (tf t) = 1 + dep t := rfl
theorem dep_tg (a b : Tm) : dep (tg a b) = 1 + max (dep a) (dep b) := rfl
theorem ltrs_tc {i : Int} (h : 0 ≤ i) : ltrs (tc i) = [97 + i] := by
  show [97 + ((i.toNat : Nat) : Int)] = [97 + i]
  rw [Int.toNat_of_nonneg h]
theorem ltrs_tf (t : Tm) : ltrs (tf t) = 102 :: ltrs t := rfl
theorem ltrs_tg (a b : Tm) : ltrs (tg a b) = 103 :: (ltrs a ++ ltrs b) := rfl
theorem siz_tc (i : Int) : siz (tc i) = 1 := rfl
theorem siz_tf (t : Tm) : siz (tf t) = 1 + siz t := by
  unfold siz
  rw [ltrs_tf]
  simp; omega
theorem siz_tg (a b : Tm) : siz (tg a b) = 1 + siz a + siz b := by
  unfold siz
  rw [ltrs_tg]
  simp; omega
theorem dep_nonneg : ∀ t : Tm, 0 ≤ dep t
  | .length t => by
    show 0 ≤ 1 + dep t
    have := dep_nonneg t
    omega
  | .elem a b => by
    show 0 ≤ 1 + max (dep a) (dep b)
    have := dep_nonneg a
    omega
  | .arg _ => Int.le_refl _
  | .int _ => Int.le_refl _
  | .long _ => Int.le_refl _
  | .null => Int.le_refl _
  | .index _ => Int.le_refl _
  | .field _ _ _ _ => Int.le_refl _
  | .static _ _ _ => Int.le_refl _
  | .string _ _ => Int.le_refl _
  | .mirror _ => Int.le_refl _
  | .add _ _ => Int.le_refl _
  | .sub _ _ => Int.le_refl _
  | .mul _ _ => Int.le_refl _
  | .div _ _ => Int.le_refl _
  | .rem _ _ => Int.le_refl _
  | .op2 _ _ _ => Int.le_refl _
  | .op1 _ _ => Int.le_refl _
  | .sum _ => Int.le_refl _
  | .result => Int.le_refl _
  | .thrown => Int.le_refl _
  | .old _ => Int.le_refl _
theorem siz_pos (t : Tm) : 1 ≤ siz t := by
  unfold siz
  have : ltrs t ≠ [] := by
    unfold ltrs
    split <;> simp
  have := List.length_pos_iff.mpr this
  omega
/-- few letters where it is not deep -/
theorem siz_le : ∀ (n : Nat) (t : Tm), dep t ≤ n → siz t < 2 ^ (n + 1)
  | n, .length t, h => by
    have h' : 1 + dep t ≤ n := h
    have h0 := dep_nonneg t
    match n, h' with
    | 0, h' => omega
    | n + 1, h' =>
      have := siz_le n t (by omega)
      have e : siz (Jvm.Term.length t) = 1 + siz t := siz_tf t
      have hp : (0 : Int) < 2 ^ n := Int.pow_pos (by decide)
      have e2 : (2 : Int) ^ (n + 1 + 1) = 2 ^ (n + 1) * 2 := Int.pow_succ 2 (n + 1)
      rw [e, e2]
      omega
  | n, .elem a b, h => by
    have h' : 1 + max (dep a) (dep b) ≤ n := h
    have h0 := dep_nonneg a
    match n, h' with
    | 0, h' => omega
    | n + 1, h' =>
      have h1 := siz_le n a (by omega)
      have h2 := siz_le n b (by omega)
      have e : siz (Jvm.Term.elem a b) = 1 + siz a + siz b := siz_tg a b
      have e2 : (2 : Int) ^ (n + 1 + 1) = 2 ^ (n + 1) * 2 := Int.pow_succ 2 (n + 1)
      rw [e, e2]
      omega
  | n, .arg i, _ => sz1 n
  | n, .int _, _ => sz1 n
  | n, .long _, _ => sz1 n
  | n, .null, _ => sz1 n
  | n, .index _, _ => sz1 n
  | n, .field _ _ _ _, _ => sz1 n
  | n, .static _ _ _, _ => sz1 n
  | n, .string _ _, _ => sz1 n
  | n, .mirror _, _ => sz1 n
  | n, .add _ _, _ => sz1 n
  | n, .sub _ _, _ => sz1 n
  | n, .mul _ _, _ => sz1 n
  | n, .div _ _, _ => sz1 n
  | n, .rem _ _, _ => sz1 n
  | n, .op2 _ _ _, _ => sz1 n
  | n, .op1 _ _, _ => sz1 n
  | n, .sum _, _ => sz1 n
  | n, .result, _ => sz1 n
  | n, .thrown, _ => sz1 n
  | n, .old _, _ => sz1 n
where sz1 (n : Nat) : (1 : Int) < 2 ^ (n + 1) := by
        have e2 : (2 : Int) ^ (n + 1) = 2 ^ n * 2 := Int.pow_succ 2 n
        have : (0 : Int) < 2 ^ n := Int.pow_pos (by decide)
        rw [e2]
        omega
end TMS
