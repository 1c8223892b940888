section PARSE
/-! THE TEXT: letters tx 0 .. tx (n - 1); blanks between tokens -/
def skF (tx : Int → Int) (n : Int) : Nat → Int → Int
  | 0, p => p
  | k + 1, p => if p < n ∧ tx p = 32 then skF tx n k (p + 1) else p
/-- the place of the next token, or the text's length -/
def skp (tx : Int → Int) (n p : Int) : Int := skF tx n (n - p).toNat p
set_option maxRecDepth 100000 in
set_option maxHeartbeats 1000000 in
theorem skp_eq (tx : Int → Int) (n p : Int) : skp tx n p = if p < n ∧ tx p = 32 then skp tx n (p + 1) else p := by
  unfold skp
  by_cases h : p < n
  · rw [show (n - p).toNat = (n - (p + 1)).toNat + 1 by omega, skF]
  · rw [show (n - p).toNat = 0 by omega, if_neg (fun q => h q.1)]
    rfl
set_option maxRecDepth 100000 in
set_option maxHeartbeats 1000000 in
theorem skp_rg (tx : Int → Int) (n : Int) : ∀ (N : Nat) (p : Int), (n - p).toNat = N → p ≤ n → p ≤ skp tx n p ∧ skp tx n p ≤ n := by
  intro N
  induction N using Nat.strongRecOn with
  | _ N ih =>
    intro p hN hp
    rw [skp_eq]
    split
    · have := ih (n - (p + 1)).toNat (by omega) (p + 1) rfl (by omega)
      omega
    · omega
set_option maxRecDepth 100000 in
set_option maxHeartbeats 1000000 in
theorem skp_ge (tx : Int → Int) {n p : Int} (hp : p ≤ n) : p ≤ skp tx n p ∧ skp tx n p ≤ n := skp_rg tx n _ p rfl hp
set_option maxRecDepth 100000 in
set_option maxHeartbeats 1000000 in
theorem skp_nb (tx : Int → Int) (n : Int) : ∀ (N : Nat) (p : Int), (n - p).toNat = N → ¬ (skp tx n p < n ∧ tx (skp tx n p) = 32) := by
  intro N
  induction N using Nat.strongRecOn with
  | _ N ih =>
    intro p hN
    rw [skp_eq]
    split
    next h => exact ih (n - (p + 1)).toNat (by omega) (p + 1) rfl
    next h => exact h
set_option maxRecDepth 100000 in
set_option maxHeartbeats 1000000 in
theorem skp_skp (tx : Int → Int) (n p : Int) : skp tx n (skp tx n p) = skp tx n p := by
  rw [skp_eq tx n (skp tx n p), if_neg (skp_nb tx n _ p rfl)]
/-- the next token's letter; -1: the text has ended -/
def tok (tx : Int → Int) (n p : Int) : Int := if skp tx n p < n then tx (skp tx n p) else -1
set_option maxRecDepth 100000 in
set_option maxHeartbeats 1000000 in
theorem tok_skp (tx : Int → Int) (n p : Int) : tok tx n (skp tx n p) = tok tx n p := by
  unfold tok
  rw [skp_skp]
set_option maxRecDepth 100000 in
set_option maxHeartbeats 1000000 in
theorem tok_lt {tx : Int → Int} {n p : Int} (h : tok tx n p ≠ -1) : skp tx n p < n := by
  unfold tok at h
  split at h
  · assumption
  · exact absurd rfl h
/-- a term from p on, m functions deep at most: it and the place behind it; none: the fault's place -/
def pT (tx : Int → Int) (n : Int) : Nat → Int → Option Tm × Int
  | 0, p => if 97 ≤ tok tx n p ∧ tok tx n p ≤ 100 then (some (tc (tok tx n p - 97)), skp tx n p + 1) else (none, skp tx n p)
  | m + 1, p => if 97 ≤ tok tx n p ∧ tok tx n p ≤ 100 then (some (tc (tok tx n p - 97)), skp tx n p + 1) else
    if tok tx n p = 102 then (match pT tx n m (skp tx n p + 1) with
      | (some a, p1) => (some (tf a), p1)
      | (none, f) => (none, f)) else
    if tok tx n p = 103 then (match pT tx n m (skp tx n p + 1) with
      | (some a, p1) => (match pT tx n m p1 with
        | (some b, p2) => (some (tg a b), p2)
        | (none, f) => (none, f))
      | (none, f) => (none, f)) else (none, skp tx n p)
set_option maxRecDepth 100000 in
set_option maxHeartbeats 1000000 in
theorem pT_const {tx : Int → Int} {n : Int} {m : Nat} {p : Int} (h : 97 ≤ tok tx n p ∧ tok tx n p ≤ 100) : pT tx n m p = (some (tc (tok tx n p - 97)), skp tx n p + 1) := by
  cases m with
  | zero => rw [pT, if_pos h]
  | succ m => rw [pT, if_pos h]
set_option maxRecDepth 100000 in
set_option maxHeartbeats 1000000 in
theorem pT_no {tx : Int → Int} {n : Int} {m : Nat} {p : Int} (h : ¬ (97 ≤ tok tx n p ∧ tok tx n p ≤ 100)) (h2 : m = 0 ∨ (tok tx n p ≠ 102 ∧ tok tx n p ≠ 103)) : pT tx n m p = (none, skp tx n p) := by
  cases m with
  | zero => rw [pT, if_neg h]
  | succ m =>
    rcases h2 with h2 | ⟨h2, h3⟩
    · omega
    · rw [pT, if_neg h, if_neg h2, if_neg h3]
set_option maxRecDepth 100000 in
set_option maxHeartbeats 1000000 in
theorem pT_f {tx : Int → Int} {n : Int} {m : Nat} {p : Int} (h : tok tx n p = 102) : pT tx n (m + 1) p = (match pT tx n m (skp tx n p + 1) with
      | (some a, p1) => (some (tf a), p1)
      | (none, f) => (none, f)) := by
  rw [pT, if_neg (by omega), if_pos h]
set_option maxRecDepth 100000 in
set_option maxHeartbeats 1000000 in
theorem pT_g {tx : Int → Int} {n : Int} {m : Nat} {p : Int} (h : tok tx n p = 103) : pT tx n (m + 1) p = (match pT tx n m (skp tx n p + 1) with
      | (some a, p1) => (match pT tx n m p1 with
        | (some b, p2) => (some (tg a b), p2)
        | (none, f) => (none, f))
      | (none, f) => (none, f)) := by
  rw [pT, if_neg (by omega), if_neg (by omega), if_pos h]
set_option maxRecDepth 100000 in
set_option maxHeartbeats 1000000 in
/-- places go on, within the text -/
theorem pT_rg {tx : Int → Int} {n : Int} : ∀ (m : Nat) (p : Int), p ≤ n → (p ≤ (pT tx n m p).2 ∧ (pT tx n m p).2 ≤ n) ∧ ((pT tx n m p).1.isSome = true → p < (pT tx n m p).2) := by
  intro m
  induction m with
  | zero =>
    intro p hp
    have h1 := skp_ge tx hp
    by_cases h : 97 ≤ tok tx n p ∧ tok tx n p ≤ 100
    · have h2 := tok_lt (tx := tx) (n := n) (p := p) (by omega)
      rw [pT_const h]
      exact ⟨by dsimp only; omega, fun _ => by dsimp only; omega⟩
    · rw [pT_no h (Or.inl rfl)]
      exact ⟨by dsimp only; omega, fun q => by simp at q⟩
  | succ m ih =>
    intro p hp
    have h1 := skp_ge tx hp
    by_cases h : 97 ≤ tok tx n p ∧ tok tx n p ≤ 100
    · have h2 := tok_lt (tx := tx) (n := n) (p := p) (by omega)
      rw [pT_const h]
      exact ⟨by dsimp only; omega, fun _ => by dsimp only; omega⟩
    · by_cases hf : tok tx n p = 102
      · have h2 := tok_lt (tx := tx) (n := n) (p := p) (by omega)
        have i1 := ih (skp tx n p + 1) (by omega)
        rw [pT_f hf]
        rcases hq : pT tx n m (skp tx n p + 1) with ⟨_ | a, p1⟩
        · rw [hq] at i1
          dsimp only at i1 ⊢
          exact ⟨by omega, fun q => by simp at q⟩
        · rw [hq] at i1
          dsimp only at i1 ⊢
          exact ⟨by omega, fun _ => by have := i1.2 rfl; omega⟩
      · by_cases hg : tok tx n p = 103
        · have h2 := tok_lt (tx := tx) (n := n) (p := p) (by omega)
          have i1 := ih (skp tx n p + 1) (by omega)
          rw [pT_g hg]
          rcases hq : pT tx n m (skp tx n p + 1) with ⟨_ | a, p1⟩
          · rw [hq] at i1
            dsimp only at i1 ⊢
            exact ⟨by omega, fun q => by simp at q⟩
          · rw [hq] at i1
            dsimp only at i1 ⊢
            have i2 := ih p1 (by omega)
            rcases hq2 : pT tx n m p1 with ⟨_ | b, p2⟩
            · rw [hq2] at i2
              dsimp only at i2 ⊢
              exact ⟨by omega, fun q => by simp at q⟩
            · rw [hq2] at i2
              dsimp only at i2 ⊢
              exact ⟨by omega, fun _ => by have := i1.2 rfl; omega⟩
        · rw [pT_no h (Or.inr ⟨hf, hg⟩)]
          exact ⟨by dsimp only; omega, fun q => by simp at q⟩
/-- figures -/
def pF (tx : Int → Int) (n : Int) : Nat → Int → Int → Option Int × Int
  | 0, p, acc => (some acc, p)
  | k + 1, p, acc => if 48 ≤ tok tx n p ∧ tok tx n p ≤ 51 then pF tx n k (skp tx n p + 1) (acc * 4 + (tok tx n p - 48)) else (none, skp tx n p)
abbrev PS : Type := FS × (Int → Int) × Nat
def fpush (F : FS) (e : Int) (a b : Tm) : FS := (F.1 + 1, fun k => if k = (F.1 : Int) then e else F.2.1 k, fun k => if k = (F.1 : Int) then a else F.2.2.1 k, fun k => if k = (F.1 : Int) then b else F.2.2.2 k)
def ppush (P : Int → Int) (n : Nat) (c : Int) : Int → Int := fun k => if k = (n : Int) then c else P k
def pFact (tx : Int → Int) (n : Int) (σ : PS) (e p : Int) : Option PS × Int :=
  match pT tx n 4 p with
  | (none, f) => (none, f)
  | (some a, p1) => match pT tx n 4 p1 with
    | (none, f) => (none, f)
    | (some b, p2) => if tok tx n p2 = 59 then (some (fpush σ.1 e a b, σ.2), skp tx n p2 + 1) else (none, skp tx n p2)
def pIns (tx : Int → Int) (n : Int) (σ : PS) (kind : Nat) (p : Int) : Option PS × Int :=
  match pF tx n (if kind = 0 then 0 else kind + 1) p 0 with
  | (none, f) => (none, f)
  | (some v, p1) => if tok tx n p1 = 59 then (some (σ.1, ppush σ.2.1 σ.2.2 (64 * (kind : Int) + v * (if kind = 1 then 4 else 1)), σ.2.2 + 1), skp tx n p1 + 1) else (none, skp tx n p1)
def pItem (tx : Int → Int) (n : Int) (σ : PS) (p : Int) : Option PS × Int :=
  if tok tx n p = 61 ∨ tok tx n p = 33 then (if 6 ≤ σ.1.1 then (none, skp tx n p) else pFact tx n σ (if tok tx n p = 61 then 1 else 0) (skp tx n p + 1)) else
  if tok tx n p = 110 then (if 6 ≤ σ.2.2 then (none, skp tx n p) else pIns tx n σ 0 (skp tx n p + 1)) else
  if tok tx n p = 117 then (if 6 ≤ σ.2.2 then (none, skp tx n p) else pIns tx n σ 1 (skp tx n p + 1)) else
  if tok tx n p = 111 then (if 6 ≤ σ.2.2 then (none, skp tx n p) else pIns tx n σ 2 (skp tx n p + 1)) else (none, skp tx n p)
/-- all items: what is told and how many; none: the fault's place -/
def pAll (tx : Int → Int) (n : Int) : Nat → PS → Int → Option PS × Int
  | 0, σ, p => (some σ, p)
  | k + 1, σ, p => if tok tx n p = -1 then (some σ, p) else match pItem tx n σ p with
    | (none, f) => (none, f)
    | (some σ', p') => pAll tx n k σ' p'
/-- terms that are no constants, in a term -/
def sub (u : Tm) : Tm → Prop
  | .length a => u = tf a ∨ sub u a
  | .elem a b => u = tg a b ∨ sub u a ∨ sub u b
  | _ => False
set_option maxRecDepth 100000 in
set_option maxHeartbeats 1000000 in
theorem sub_tc (u : Tm) (i : Int) : ¬ sub u (tc i) := fun h => h
set_option maxRecDepth 100000 in
set_option maxHeartbeats 1000000 in
theorem sub_tf (u a : Tm) : sub u (tf a) ↔ u = tf a ∨ sub u a := Iff.rfl
set_option maxRecDepth 100000 in
set_option maxHeartbeats 1000000 in
theorem sub_tg (u a b : Tm) : sub u (tg a b) ↔ u = tg a b ∨ sub u a ∨ sub u b := Iff.rfl
/-- the terms of facts: the constants, and all in their terms -/
def UF (F : FS) (u : Tm) : Prop := (∃ i : Int, 0 ≤ i ∧ i < 4 ∧ u = tc i) ∨ ∃ k : Int, 0 ≤ k ∧ k < F.1 ∧ (sub u (F.2.2.1 k) ∨ sub u (F.2.2.2 k))
def pstart : PS := ((0, fun _ => 0, fun _ => tc 0, fun _ => tc 0), fun _ => 0, 0)
end PARSE
