section STEP
/-! WHAT A CALL ANSWERS, and the state behind it -/
def sPush (s : CS) (v : SV) : CS := (s.1, s.2.1, v, (hlen (cNh s), hpush (cNh s) (cHs s) (cNow s)), s.2.2.2.2)
def sp_type (s : CS) (c : Int) : Int × CS := if c < 0 ∨ 255 < c then (-1, s) else if 100 ≤ cN s then (-3, s) else ((cN s : Int) + 1, ((fun k => if k = (cN s : Int) then c else cTx s k, cN s + 1), s.2))
def sp_clear (s : CS) : Int × CS := ((cN s : Int), ((cTx s, 0), s.2))
def sp_machine (s : CS) : Int × CS := match pAll (cTx s) (cN s) 100 pstart 0 with
  | (none, f) => (-10 - f, s)
  | (some σ, _) => ((σ.1.1 : Int) + (σ.2.2 : Int), ((cTx s, 0), σ.1, (σ.2.1, σ.2.2, 2, 0, 0, pw_shl 1 (σ.1.1 : Int) - 1), (0, cHs s), (fun _ => (0, cNow s)), (0, cSeen s)))
def fldOf (c what : Int) : Int := if what = 0 then kd c else if what = 1 then dd c else if what = 2 then ss c else tt c
def sp_instruction (s : CS) (k what : Int) : Int := if (0 ≤ k ∧ k < vn (cNow s)) ∧ (0 ≤ what ∧ what ≤ 3) then fldOf (vP (cNow s) k) what else -1
abbrev isI (kind d a b : Int) : Prop := ((0 ≤ kind ∧ kind ≤ 2) ∧ (0 ≤ d ∧ d ≤ 3) ∧ (0 ≤ a ∧ a ≤ 3) ∧ (0 ≤ b ∧ b ≤ 3)) ∧ (kind = 2 ∨ (b = 0 ∧ (kind = 1 ∨ (d = 0 ∧ a = 0))))
def sp_puts (s : CS) (k kind d a b : Int) : Int × CS := if ¬ ((0 ≤ k ∧ k ≤ vn (cNow s)) ∧ isI kind d a b) then (-1, s) else
  if k < vn (cNow s) ∧ vP (cNow s) k = 64 * kind + 16 * d + 4 * a + b then (-2, s) else
  if 6 ≤ k then (-3, s) else
  (((if k = (vn (cNow s) : Int) then vn (cNow s) + 1 else vn (cNow s) : Nat) : Int), sPush s (fun j => if j = k then 64 * kind + 16 * d + 4 * a + b else vP (cNow s) j, (if k = (vn (cNow s) : Int) then vn (cNow s) + 1 else vn (cNow s)), vl (cNow s), vf (cNow s), vw (cNow s), vi (cNow s)))
def sp_leaves (s : CS) (f : Int) : Int × CS := if ¬ (0 ≤ f ∧ f < (cF s).1) then (-1, s) else (pw_and (pw_shr (pw_xor (vi (cNow s)) (pw_shl 1 f)) f) 1, sPush s (vP (cNow s), vn (cNow s), vl (cNow s), vf (cNow s), vw (cNow s), pw_xor (vi (cNow s)) (pw_shl 1 f)))
def sp_tells (s : CS) (l f w : Int) : Int × CS := if ¬ ((0 ≤ l ∧ l ≤ 3) ∧ (0 ≤ f ∧ f ≤ 7) ∧ (0 ≤ w ∧ w ≤ 1)) then (-1, s) else if vl (cNow s) = l ∧ vf (cNow s) = f ∧ vw (cNow s) = w then (-2, s) else (1, sPush s (vP (cNow s), vn (cNow s), l, f, w, vi (cNow s)))
def sp_undo (s : CS) : Int × CS := if cNh s = 0 then (-2, s) else (((cNh s - 1 : Nat) : Int), (s.1, s.2.1, cHs s ((cNh s : Int) - 1), (cNh s - 1, cHs s), s.2.2.2.2))
def sp_keep (s : CS) (i : Int) : Int × CS := if ¬ (0 ≤ i ∧ i ≤ 1) then (-1, s) else ((vn (cNow s) : Int), (s.1, s.2.1, s.2.2.1, s.2.2.2.1, (fun j => if j = i then (1, cNow s) else cIm s j), s.2.2.2.2.2))
def sp_back (s : CS) (i : Int) : Int × CS := if ¬ (0 ≤ i ∧ i ≤ 1) then (-1, s) else if (cIm s i).1 = 0 then (-2, s) else ((vn (cIm s i).2 : Int), (s.1, s.2.1, (cIm s i).2, (0, cHs s), s.2.2.2.2))
def sp_count (s : CS) (w : Int) : Int := if w = 0 then (cF s).1 else if w = 1 then vi (cNow s) else if w = 2 then vn (cNow s) else if w = 3 then vl (cNow s) else if w = 4 then vf (cNow s) else if w = 5 then vw (cNow s) else if w = 6 then cNs s else if w = 7 then cN s else if w = 8 then cNh s else -1
def sp_sees (s : CS) (x : Int) : Int × CS := if ¬ (0 ≤ x ∧ x ≤ 15) then (-1, s) else if 4 ≤ cNs s then (-3, s) else ((cNs s : Int) + 1, (s.1, s.2.1, s.2.2.1, s.2.2.2.1, s.2.2.2.2.1, (cNs s + 1, fun j => if j = (cNs s : Int) then (x, cNow s) else cSeen s j)))
def sp_forget (s : CS) : Int × CS := ((cNs s : Int), (s.1, s.2.1, s.2.2.1, s.2.2.2.1, s.2.2.2.2.1, (0, cSeen s)))
noncomputable def sp_unseen (s : CS) : Int := unsn (cNs s) (cSeen s)
noncomputable def sp_fact (s : CS) (k : Int) : Int := if 0 ≤ k ∧ k < (cF s).1 then eqv (UF (cF s)) (cF s) (vi (cNow s)) ((cF s).2.2.1 k) ((cF s).2.2.2 k) else -1
noncomputable def sp_ruled (s : CS) : Int := cb (ROut (UF (cF s)) (cF s) (vi (cNow s)) (EQ (cF s) (vi (cNow s))))
/-- what a register has at last -/
def regT (v : SV) (r : Int) (piped : Prop) [Decidable piped] : Tm := if piped then piT (vP v) (vl v) (vf v) (vw v) (vn v) r else plT (vP v) (vn v) r
def cUR (s : CS) : Tm → Prop := UR (UF (cF s)) (vP (cNow s)) (vl (cNow s)) (vf (cNow s)) (vw (cNow s)) (vn (cNow s))
noncomputable def sp_equal (s : CS) (r q w : Int) : Int := if (0 ≤ r ∧ r ≤ 3) ∧ (0 ≤ q ∧ q ≤ 3) ∧ (0 ≤ w ∧ w ≤ 2) then eqv (cUR s) (cF s) (vi (cNow s)) (regT (cNow s) r (w = 1)) (regT (cNow s) q (¬ w = 0)) else -1
def sp_deep (s : CS) (r w : Int) : Int := if (0 ≤ r ∧ r ≤ 3) ∧ (0 ≤ w ∧ w ≤ 1) then dep (regT (cNow s) r (w = 1)) else -1
def sp_term (s : CS) (r w k : Int) : Int := if (0 ≤ r ∧ r ≤ 3) ∧ (0 ≤ w ∧ w ≤ 1) ∧ 0 ≤ k then ltr (regT (cNow s) r (w = 1)) k else -1
def sp_step (s : CS) (k : Int) : Int := if 0 ≤ k ∧ k < vn (cNow s) then St (vP (cNow s)) (vl (cNow s)) (vf (cNow s)) (vw (cNow s)) k else -1
def sp_length (s : CS) : Int := if vn (cNow s) = 0 then 0 else St (vP (cNow s)) (vl (cNow s)) (vf (cNow s)) (vw (cNow s)) ((vn (cNow s) : Int) - 1) + 1 + vl (cNow s)
noncomputable def sp_wrong (s : CS) : Int := wrg (cF s) (vi (cNow s)) (vP (cNow s)) (vl (cNow s)) (vf (cNow s)) (vw (cNow s)) (vn (cNow s))
/-- by these forwards the program is right, the pipe not waiting -/
def ndOK (s : CS) (f : Int) : Prop := wrg (cF s) (vi (cNow s)) (vP (cNow s)) (vl (cNow s)) f 0 (vn (cNow s)) = 0
noncomputable def sp_needed (s : CS) : Int := if cdec (ndOK s 0) = true then 0 else if cdec (ndOK s 1) = true then 1 else if cdec (ndOK s 2) = true then 2 else if cdec (ndOK s 4) = true then 4 else if cdec (ndOK s 3) = true then 3 else if cdec (ndOK s 5) = true then 5 else if cdec (ndOK s 6) = true then 6 else if cdec (ndOK s 7) = true then 7 else -9
set_option maxRecDepth 100000 in
set_option maxHeartbeats 1000000 in
theorem sPush_ok {s : CS} {v : SV} (h : ∀ i : Int, 0 ≤ i → i < cNh s → okF s (cHs s i)) (hn : okF s (cNow s)) (hl : cNh s ≤ 10) : ∀ i : Int, 0 ≤ i → i < cNh (sPush s v) → okF (sPush s v) (cHs (sPush s v) i) := by
  intro i i0 i1
  show okF s (hpush (cNh s) (cHs s) (cNow s) i)
  have i1' : i < (hlen (cNh s) : Int) := i1
  unfold hpush
  unfold hlen at i1'
  by_cases q : cNh s < 10
  · rw [if_pos q] at i1' ⊢
    by_cases e : i = (cNh s : Int)
    · rw [if_pos e]; exact hn
    · rw [if_neg e]; exact h i i0 (by omega)
  · rw [if_neg q] at i1' ⊢
    by_cases e : i = 9
    · rw [if_pos e]; exact hn
    · rw [if_neg e]; exact h (i + 1) (by omega) (by omega)
set_option maxRecDepth 100000 in
set_option maxHeartbeats 1000000 in
theorem xor_rgd : ∀ n : Fin 7, ∀ f : Fin 6, ∀ x : Fin 64, f.val < n.val → x.val < 2 ^ n.val → (0 ≤ pw_xor (x.val : Int) (pw_shl 1 (f.val : Int)) ∧ pw_xor (x.val : Int) (pw_shl 1 (f.val : Int)) < 2 ^ n.val) := by decide +kernel
set_option maxRecDepth 100000 in
set_option maxHeartbeats 1000000 in
theorem xor_rg {n : Nat} {f x : Int} (hn : n ≤ 6) (f0 : 0 ≤ f) (f1 : f < n) (x0 : 0 ≤ x) (x1 : x < 2 ^ n) (x2 : x < 64) : 0 ≤ pw_xor x (pw_shl 1 f) ∧ pw_xor x (pw_shl 1 f) < 2 ^ n ∧ pw_xor x (pw_shl 1 f) < 64 := by
  have e : ((2 ^ n : Nat) : Int) = (2 : Int) ^ n := by simp
  have := xor_rgd ⟨n, by omega⟩ ⟨f.toNat, by omega⟩ ⟨x.toNat, by omega⟩ (by dsimp only; omega) (by dsimp only; omega)
  simp only [Int.toNat_of_nonneg f0, Int.toNat_of_nonneg x0] at this
  have hp : 2 ^ n ≤ 2 ^ 6 := Nat.pow_le_pow_right (by decide) hn
  have e6 : 2 ^ 6 = 64 := by decide
  exact ⟨this.1, this.2, by omega⟩
end STEP
