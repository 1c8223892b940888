section SPEC
/-! THE STATE, in words of its own: text, facts, what is now, what may be undone, images, what was seen -/
abbrev CS : Type := ((Int → Int) × Nat) × FS × SV × (Nat × (Int → SV)) × (Int → Int × SV) × (Nat × (Int → Int × SV))
def cTx (s : CS) : Int → Int := s.1.1
def cN (s : CS) : Nat := s.1.2
def cF (s : CS) : FS := s.2.1
def cNow (s : CS) : SV := s.2.2.1
def cNh (s : CS) : Nat := s.2.2.2.1.1
def cHs (s : CS) : Int → SV := s.2.2.2.1.2
def cIm (s : CS) : Int → Int × SV := s.2.2.2.2.1
def cNs (s : CS) : Nat := s.2.2.2.2.2.1
def cSeen (s : CS) : Int → Int × SV := s.2.2.2.2.2.2
def vP (v : SV) : Int → Int := v.1
def vn (v : SV) : Nat := v.2.1
def vl (v : SV) : Int := v.2.2.1
def vf (v : SV) : Int := v.2.2.2.1
def vw (v : SV) : Int := v.2.2.2.2.1
def vi (v : SV) : Int := v.2.2.2.2.2
noncomputable def cdec (p : Prop) : Bool := @decide p (Classical.propDecidable p)
set_option maxRecDepth 100000 in
set_option maxHeartbeats 1000000 in
theorem cdec_true {p : Prop} : cdec p = true ↔ p := by
  unfold cdec
  exact @decide_eq_true_iff p (Classical.propDecidable p)
set_option maxRecDepth 100000 in
set_option maxHeartbeats 1000000 in
theorem cdec_false {p : Prop} : cdec p = false ↔ ¬ p := by
  unfold cdec
  exact @decide_eq_false_iff_not p (Classical.propDecidable p)
set_option maxRecDepth 100000 in
set_option maxHeartbeats 1000000 in
theorem cdec_congr {p q : Prop} (h : p ↔ q) : cdec p = cdec q := by rw [propext h]
/-- UNSEEN: FORWARDS by which all that was seen is so -/
noncomputable def unsn (ns : Nat) (rw_ : Int → Int × SV) : Int := bsum (fun f => cdec (∀ k : Int, 0 ≤ k → k < ns → dif (vP (rw_ k).2) (vl (rw_ k).2) f 0 (vn (rw_ k).2) = (rw_ k).1)) 8
/-- EQUAL of two terms -/
noncomputable def eqv (U : Tm → Prop) (F : FS) (fs : Int) (a b : Tm) : Int := if cdec (Cl U (EQ F fs) a b ∨ ROut U F fs (EQ F fs)) = true then 1 else if cdec (ROut U F fs (fun x y => EQ F fs x y ∨ (x = a ∧ y = b))) = true then 2 else 0
/-- WRONG by some facts, of a program, by a pipe -/
noncomputable def wrg (F : FS) (fs : Int) (P : Int → Int) (lag fw w : Int) (n : Nat) : Int := if cdec (ROut (UR (UF F) P lag fw w n) F fs (EQ F fs)) = true then 0 else bsum (fun r => cdec (¬ Cl (UR (UF F) P lag fw w n) (EQ F fs) (plT P n r) (piT P lag fw w n r))) 4
set_option maxRecDepth 100000 in
set_option maxHeartbeats 1000000 in
theorem wrg_rg (F : FS) (fs : Int) (P : Int → Int) (lag fw w : Int) (n : Nat) : 0 ≤ wrg F fs P lag fw w n ∧ wrg F fs P lag fw w n < 16 := by
  unfold wrg
  split
  · omega
  · have := bsum_rg (fun r => cdec (¬ Cl (UR (UF F) P lag fw w n) (EQ F fs) (plT P n r) (piT P lag fw w n r))) 4
    omega
set_option maxRecDepth 100000 in
set_option maxHeartbeats 1000000 in
theorem dif_rg (P : Int → Int) (lag fw w : Int) (n : Nat) : 0 ≤ dif P lag fw w n ∧ dif P lag fw w n < 16 := by
  have := bsum_rg (fun r => @decide (plT P n r ≠ piT P lag fw w n r) (Classical.propDecidable _)) 4
  unfold dif
  omega
/-! the text is read alike where its letters are -/
set_option maxRecDepth 100000 in
set_option maxHeartbeats 1000000 in
theorem skp_congr {tx tx' : Int → Int} {n : Int} (h : ∀ k, 0 ≤ k → k < n → tx k = tx' k) : ∀ (N : Nat) (p : Int), (n - p).toNat = N → 0 ≤ p → skp tx n p = skp tx' n p := by
  intro N
  induction N using Nat.strongRecOn with
  | _ N ih =>
    intro p hN p0
    rw [skp_eq tx, skp_eq tx']
    by_cases q : p < n
    · rw [h p p0 q, ih (n - (p + 1)).toNat (by omega) (p + 1) rfl (by omega)]
    · rw [if_neg (fun w => q w.1), if_neg (fun w => q w.1)]
set_option maxRecDepth 100000 in
set_option maxHeartbeats 1000000 in
theorem skp_nn {tx : Int → Int} {n p : Int} (p0 : 0 ≤ p) : 0 ≤ skp tx n p := by
  by_cases q : p ≤ n
  · have := skp_ge tx q; omega
  · rw [skp_eq, if_neg (by omega)]; exact p0
set_option maxRecDepth 100000 in
set_option maxHeartbeats 1000000 in
theorem tok_congr {tx tx' : Int → Int} {n : Int} (h : ∀ k, 0 ≤ k → k < n → tx k = tx' k) {p : Int} (p0 : 0 ≤ p) : tok tx n p = tok tx' n p := by
  unfold tok
  rw [skp_congr h _ p rfl p0]
  split
  · rw [h _ (skp_nn p0) (by assumption)]
  · rfl
set_option maxRecDepth 100000 in
set_option maxHeartbeats 1000000 in
theorem pT_nn {tx : Int → Int} {n : Int} (m : Nat) (p : Int) (p0 : 0 ≤ p) : 0 ≤ (pT tx n m p).2 := by
  induction m generalizing p with
  | zero =>
    have := skp_nn (tx := tx) (n := n) p0
    rw [pT]; split <;> (dsimp only; omega)
  | succ m ih =>
    have := skp_nn (tx := tx) (n := n) p0
    rw [pT]
    split
    · dsimp only; omega
    · split
      · have i1 := ih (skp tx n p + 1) (by omega)
        generalize pT tx n m (skp tx n p + 1) = xx at *
        rcases xx with ⟨_ | a, p1⟩ <;> exact i1
      · split
        · have i1 := ih (skp tx n p + 1) (by omega)
          generalize pT tx n m (skp tx n p + 1) = xx at *
          rcases xx with ⟨_ | a, p1⟩
          · exact i1
          · have i2 := ih p1 i1
            dsimp only
            generalize pT tx n m p1 = xx at *
            rcases xx with ⟨_ | b, p2⟩ <;> exact i2
        · dsimp only; omega
set_option maxRecDepth 100000 in
set_option maxHeartbeats 1000000 in
theorem pT_congr {tx tx' : Int → Int} {n : Int} (h : ∀ k, 0 ≤ k → k < n → tx k = tx' k) (m : Nat) : ∀ (p : Int), 0 ≤ p → pT tx n m p = pT tx' n m p := by
  induction m with
  | zero => intro p p0; rw [pT, pT, tok_congr h p0, skp_congr h _ p rfl p0]
  | succ m ih =>
    intro p p0
    have hs := skp_nn (tx := tx') (n := n) p0
    rw [pT, pT, tok_congr h p0, skp_congr h _ p rfl p0, ih (skp tx' n p + 1) (by omega)]
    split
    · rfl
    · split
      · rfl
      · split
        · have i1 := pT_nn (tx := tx') (n := n) m (skp tx' n p + 1) (by omega)
          generalize pT tx' n m (skp tx' n p + 1) = xx at *
          rcases xx with ⟨_ | a, p1⟩
          · rfl
          · dsimp only
            rw [ih p1 i1]
        · rfl
set_option maxRecDepth 100000 in
set_option maxHeartbeats 1000000 in
theorem pF_congr {tx tx' : Int → Int} {n : Int} (h : ∀ k, 0 ≤ k → k < n → tx k = tx' k) (m : Nat) : ∀ (p acc : Int), 0 ≤ p → pF tx n m p acc = pF tx' n m p acc := by
  induction m with
  | zero => intro p acc p0; rfl
  | succ m ih =>
    intro p acc p0
    have hs := skp_nn (tx := tx') (n := n) p0
    rw [pF, pF, tok_congr h p0, skp_congr h _ p rfl p0, ih (skp tx' n p + 1) _ (by omega)]
set_option maxRecDepth 100000 in
set_option maxHeartbeats 1000000 in
theorem pF_nn {tx : Int → Int} {n : Int} (m : Nat) : ∀ (p acc : Int), 0 ≤ p → 0 ≤ (pF tx n m p acc).2 := by
  induction m with
  | zero => intro p acc p0; exact p0
  | succ m ih =>
    intro p acc p0
    have hs := skp_nn (tx := tx) (n := n) p0
    rw [pF]
    split
    · exact ih _ _ (by omega)
    · exact hs
set_option maxRecDepth 100000 in
set_option maxHeartbeats 1000000 in
theorem pItem_congr {tx tx' : Int → Int} {n : Int} (h : ∀ k, 0 ≤ k → k < n → tx k = tx' k) (σ : PS) {p : Int} (p0 : 0 ≤ p) : pItem tx n σ p = pItem tx' n σ p := by
  have hs := skp_nn (tx := tx') (n := n) p0
  have hF : ∀ e, pFact tx n σ e (skp tx' n p + 1) = pFact tx' n σ e (skp tx' n p + 1) := by
    intro e
    unfold pFact
    rw [pT_congr h 4 _ (by omega)]
    have i1 := pT_nn (tx := tx') (n := n) 4 (skp tx' n p + 1) (by omega)
    generalize pT tx' n 4 (skp tx' n p + 1) = xx at *
    rcases xx with ⟨_ | a, p1⟩
    · rfl
    · dsimp only at i1 ⊢
      rw [pT_congr h 4 p1 i1]
      have i2 := pT_nn (tx := tx') (n := n) 4 p1 i1
      generalize pT tx' n 4 p1 = xx at *
      rcases xx with ⟨_ | b, p2⟩
      · rfl
      · dsimp only at i2 ⊢
        rw [tok_congr h i2, skp_congr h _ p2 rfl i2]
  have hI : ∀ k, pIns tx n σ k (skp tx' n p + 1) = pIns tx' n σ k (skp tx' n p + 1) := by
    intro k
    unfold pIns
    rw [pF_congr h _ _ _ (by omega)]
    have i1 := pF_nn (tx := tx') (n := n) (if k = 0 then 0 else k + 1) (skp tx' n p + 1) 0 (by omega)
    generalize pF tx' n (if k = 0 then 0 else k + 1) (skp tx' n p + 1) 0 = xx at *
    rcases xx with ⟨_ | a, p1⟩
    · rfl
    · dsimp only at i1 ⊢
      rw [tok_congr h i1, skp_congr h _ p1 rfl i1]
  unfold pItem
  rw [tok_congr h p0, skp_congr h _ p rfl p0, hF, hI, hI, hI]
set_option maxRecDepth 100000 in
set_option maxHeartbeats 1000000 in
theorem pItem_nn {tx : Int → Int} {n : Int} {σ : PS} {p : Int} (hn : 0 ≤ n) (p0 : 0 ≤ p) (p1 : p ≤ n) : 0 ≤ (pItem tx n σ p).2 ∧ (pItem tx n σ p).2 ≤ n := by
  have := (pItem_rg (tx := tx) (σ := σ) p1).1
  omega
set_option maxRecDepth 100000 in
set_option maxHeartbeats 1000000 in
theorem pAll_congr {tx tx' : Int → Int} {n : Int} (hn : 0 ≤ n) (h : ∀ k, 0 ≤ k → k < n → tx k = tx' k) (N : Nat) : ∀ (σ : PS) (p : Int), 0 ≤ p → p ≤ n → pAll tx n N σ p = pAll tx' n N σ p := by
  induction N with
  | zero => intro σ p p0 p1; rfl
  | succ N ih =>
    intro σ p p0 p1
    rw [pAll, pAll, tok_congr h p0, pItem_congr h σ p0]
    have i1 := pItem_nn (tx := tx') (σ := σ) hn p0 p1
    split
    · rfl
    · generalize pItem tx' n σ p = xx at *
      rcases xx with ⟨_ | σ', p'⟩
      · rfl
      · dsimp only at i1 ⊢
        exact ih σ' p' i1.1 i1.2
end SPEC
