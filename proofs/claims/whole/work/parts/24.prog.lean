section PROG
/-! PROGRAMS: instructions as codes 64 kind + 16 D + 4 S + T; what they make, PLAIN and PIPED; STEPS -/
def kd (c : Int) : Int := c / 64
def dd (c : Int) : Int := c / 16 % 4
def ss (c : Int) : Int := c / 4 % 4
def tt (c : Int) : Int := c % 4
abbrev okc (c : Int) : Prop := 0 ≤ c ∧ c < 192
set_option maxRecDepth 100000 in
set_option maxHeartbeats 4000000 in
theorem kd_rg {c : Int} (h : okc c) : 0 ≤ kd c ∧ kd c ≤ 2 := by unfold kd; omega
set_option maxRecDepth 100000 in
set_option maxHeartbeats 4000000 in
theorem dd_rg (c : Int) : 0 ≤ dd c ∧ dd c < 4 := by unfold dd; omega
set_option maxRecDepth 100000 in
set_option maxHeartbeats 4000000 in
theorem ss_rg (c : Int) : 0 ≤ ss c ∧ ss c < 4 := by unfold ss; omega
set_option maxRecDepth 100000 in
set_option maxHeartbeats 4000000 in
theorem tt_rg (c : Int) : 0 ≤ tt c ∧ tt c < 4 := by unfold tt; omega
def mkT (k : Int) (a b : Tm) : Tm := if k = 1 then tf a else tg a b
abbrev mks (P : Int → Int) (k r : Int) : Prop := kd (P k) ≠ 0 ∧ dd (P k) = r
def lat (P : Int → Int) : Nat → Int → Int
  | 0, _ => -1
  | k + 1, r => if mks P (k : Int) r then (k : Int) else lat P k r
def rdT (P : Int → Int) (M : Int → Tm) (V : Int → Bool) : Nat → Int → Tm
  | 0, r => tc r
  | k + 1, r => if mks P (k : Int) r ∧ V (k : Int) = true then M (k : Int) else rdT P M V k r
def mdF (P : Int → Int) (V : Int → Int → Bool) : Nat → Int → Tm
  | 0, _ => tc 0
  | k + 1, j => if j = (k : Int) then mkT (kd (P (k : Int))) (rdT P (mdF P V k) (V (k : Int)) k (ss (P (k : Int)))) (rdT P (mdF P V k) (V (k : Int)) k (tt (P (k : Int)))) else mdF P V k j
def Md (P : Int → Int) (V : Int → Int → Bool) (j : Int) : Tm := mdF P V (j.toNat + 1) j
set_option maxRecDepth 100000 in
set_option maxHeartbeats 4000000 in
theorem lat_rg (P : Int → Int) : ∀ (k : Nat) (r : Int), -1 ≤ lat P k r ∧ lat P k r < k
  | 0, r => by unfold lat; omega
  | k + 1, r => by
    unfold lat
    have := lat_rg P k r
    split <;> omega
set_option maxRecDepth 100000 in
set_option maxHeartbeats 4000000 in
theorem lat_mks (P : Int → Int) : ∀ (k : Nat) (r : Int), 0 ≤ lat P k r → mks P (lat P k r) r
  | 0, r => by unfold lat; omega
  | k + 1, r => by
    unfold lat
    split
    · intro _; assumption
    · exact lat_mks P k r
set_option maxRecDepth 100000 in
set_option maxHeartbeats 4000000 in
theorem rdT_congr {P : Int → Int} {M M' : Int → Tm} {V V' : Int → Bool} : ∀ (k : Nat) (r : Int), (∀ j : Int, 0 ≤ j → j < k → M j = M' j) → (∀ j : Int, 0 ≤ j → j < k → V j = V' j) → rdT P M V k r = rdT P M' V' k r
  | 0, r, _, _ => rfl
  | k + 1, r, hM, hV => by
    unfold rdT
    rw [hM k (by omega) (by omega), hV k (by omega) (by omega), rdT_congr k r (fun j h0 h1 => hM j h0 (by omega)) (fun j h0 h1 => hV j h0 (by omega))]
set_option maxRecDepth 100000 in
set_option maxHeartbeats 4000000 in
/-- reading all: the latest maker's -/
theorem rdT_lat {P : Int → Int} {M : Int → Tm} : ∀ (k : Nat) (r : Int), rdT P M (fun _ => true) k r = if lat P k r < 0 then tc r else M (lat P k r)
  | 0, r => by unfold rdT lat; rfl
  | k + 1, r => by
    unfold rdT lat
    by_cases h : mks P (k : Int) r
    · rw [if_pos ⟨h, rfl⟩, if_pos h, if_neg (by omega)]
    · rw [if_neg (fun q => h q.1), if_neg h, rdT_lat k r]
set_option maxRecDepth 100000 in
set_option maxHeartbeats 4000000 in
theorem mdF_eq (P : Int → Int) (V : Int → Int → Bool) : ∀ (n : Nat) (j : Int), 0 ≤ j → j < n → mdF P V n j = Md P V j
  | 0, j, h0, h1 => by omega
  | n + 1, j, h0, h1 => by
    by_cases h : j = (n : Int)
    · unfold Md
      rw [show j.toNat + 1 = n + 1 by omega]
    · have : mdF P V (n + 1) j = mdF P V n j := by
        rw [mdF, if_neg h]
      rw [this, mdF_eq P V n j h0 (by omega)]
set_option maxRecDepth 100000 in
set_option maxHeartbeats 4000000 in
theorem Md_eq (P : Int → Int) (V : Int → Int → Bool) (k : Nat) : Md P V (k : Int) = mkT (kd (P (k : Int))) (rdT P (Md P V) (V (k : Int)) k (ss (P (k : Int)))) (rdT P (Md P V) (V (k : Int)) k (tt (P (k : Int)))) := by
  have h : Md P V (k : Int) = mdF P V (k + 1) (k : Int) := by unfold Md; rw [show ((k : Int)).toNat + 1 = k + 1 by omega]
  rw [h, mdF, if_pos rfl, rdT_congr (M' := Md P V) (V' := V (k : Int)) k (ss (P k)) (fun j h0 h1 => mdF_eq P V k j h0 h1) (fun _ _ _ => rfl), rdT_congr (M' := Md P V) (V' := V (k : Int)) k (tt (P k)) (fun j h0 h1 => mdF_eq P V k j h0 h1) (fun _ _ _ => rfl)]
/-! steps -/
abbrev hit (P S : Int → Int) (lag fw : Int) (k : Nat) (x r : Int) : Prop := lat P k r < 0 ∨ vis lag fw (x - S (lat P k r))
abbrev rdy (P S : Int → Int) (lag fw : Int) (k : Nat) (x : Int) : Prop := (kd (P (k : Int)) < 1 ∨ hit P S lag fw k x (ss (P (k : Int)))) ∧ (kd (P (k : Int)) < 2 ∨ hit P S lag fw k x (tt (P (k : Int))))
def wt (P S : Int → Int) (lag fw : Int) (k : Nat) (f : Int) : Int := if rdy P S lag fw k f then 0 else if rdy P S lag fw k (f + 1) then 1 else if rdy P S lag fw k (f + 2) then 2 else 3
def fre (S : Int → Int) (k : Nat) : Int := if k = 0 then 0 else S ((k : Int) - 1) + 1
def stF (P : Int → Int) (lag fw w : Int) : Nat → Int → Int
  | 0, _ => 0
  | k + 1, j => if j = (k : Int) then (if w = 1 then fre (stF P lag fw w k) k + wt P (stF P lag fw w k) lag fw k (fre (stF P lag fw w k) k) else fre (stF P lag fw w k) k) else stF P lag fw w k j
def St (P : Int → Int) (lag fw w : Int) (j : Int) : Int := stF P lag fw w (j.toNat + 1) j
set_option maxRecDepth 100000 in
set_option maxHeartbeats 4000000 in
theorem stF_eq (P : Int → Int) (lag fw w : Int) : ∀ (n : Nat) (j : Int), 0 ≤ j → j < n → stF P lag fw w n j = St P lag fw w j
  | 0, j, h0, h1 => by omega
  | n + 1, j, h0, h1 => by
    by_cases h : j = (n : Int)
    · unfold St
      rw [show j.toNat + 1 = n + 1 by omega]
    · have : stF P lag fw w (n + 1) j = stF P lag fw w n j := by
        rw [stF, if_neg h]
      rw [this, stF_eq P lag fw w n j h0 (by omega)]
set_option maxRecDepth 100000 in
set_option maxHeartbeats 4000000 in
theorem hit_congr {P S S' : Int → Int} {lag fw : Int} {k : Nat} (h : ∀ j : Int, 0 ≤ j → j < k → S j = S' j) (x r : Int) : hit P S lag fw k x r ↔ hit P S' lag fw k x r := by
  have := lat_rg P k r
  by_cases q : lat P k r < 0
  · exact ⟨fun _ => Or.inl q, fun _ => Or.inl q⟩
  · unfold hit
    rw [h (lat P k r) (by omega) (by omega)]
set_option maxRecDepth 100000 in
set_option maxHeartbeats 4000000 in
theorem rdy_congr {P S S' : Int → Int} {lag fw : Int} {k : Nat} (h : ∀ j : Int, 0 ≤ j → j < k → S j = S' j) (x : Int) : rdy P S lag fw k x ↔ rdy P S' lag fw k x := by
  unfold rdy
  rw [hit_congr h, hit_congr h]
set_option maxRecDepth 100000 in
set_option maxHeartbeats 4000000 in
theorem wt_congr {P S S' : Int → Int} {lag fw : Int} {k : Nat} (h : ∀ j : Int, 0 ≤ j → j < k → S j = S' j) (f : Int) : wt P S lag fw k f = wt P S' lag fw k f := by
  unfold wt
  simp only [rdy_congr h]
set_option maxRecDepth 100000 in
set_option maxHeartbeats 4000000 in
theorem fre_congr {S S' : Int → Int} {k : Nat} (h : ∀ j : Int, 0 ≤ j → j < k → S j = S' j) : fre S k = fre S' k := by
  unfold fre
  split
  · rfl
  · rw [h _ (by omega) (by omega)]
set_option maxRecDepth 100000 in
set_option maxHeartbeats 4000000 in
theorem St_eq (P : Int → Int) (lag fw w : Int) (k : Nat) : St P lag fw w (k : Int) = if w = 1 then fre (St P lag fw w) k + wt P (St P lag fw w) lag fw k (fre (St P lag fw w) k) else fre (St P lag fw w) k := by
  have h : St P lag fw w (k : Int) = stF P lag fw w (k + 1) (k : Int) := by unfold St; rw [show ((k : Int)).toNat + 1 = k + 1 by omega]
  have hc : ∀ j : Int, 0 ≤ j → j < k → stF P lag fw w k j = St P lag fw w j := fun j h0 h1 => stF_eq P lag fw w k j h0 h1
  rw [h, stF, if_pos rfl, fre_congr hc, wt_congr hc]
set_option maxRecDepth 100000 in
set_option maxHeartbeats 4000000 in
theorem wt_rg (P S : Int → Int) (lag fw : Int) (k : Nat) (f : Int) : 0 ≤ wt P S lag fw k f ∧ wt P S lag fw k f ≤ 3 := by
  unfold wt
  split
  · omega
  · split
    · omega
    · split <;> omega
set_option maxRecDepth 100000 in
set_option maxHeartbeats 4000000 in
theorem St_step (P : Int → Int) (lag fw w : Int) (k : Nat) : fre (St P lag fw w) k ≤ St P lag fw w (k : Int) ∧ St P lag fw w (k : Int) ≤ fre (St P lag fw w) k + 3 := by
  rw [St_eq]
  have := wt_rg P (St P lag fw w) lag fw k (fre (St P lag fw w) k)
  split <;> omega
set_option maxRecDepth 100000 in
set_option maxHeartbeats 4000000 in
theorem St_rg (P : Int → Int) (lag fw w : Int) : ∀ k : Nat, (k : Int) ≤ St P lag fw w (k : Int) ∧ St P lag fw w (k : Int) ≤ 4 * (k : Int) + 3
  | 0 => by
    have := St_step P lag fw w 0
    unfold fre at this
    simp only [if_true] at this
    omega
  | k + 1 => by
    have h := St_step P lag fw w (k + 1)
    have h2 := St_rg P lag fw w k
    unfold fre at h
    rw [if_neg (by omega), show ((k + 1 : Nat) : Int) - 1 = (k : Int) by omega] at h
    omega
set_option maxRecDepth 100000 in
set_option maxHeartbeats 4000000 in
theorem St_mono (P : Int → Int) (lag fw w : Int) (j : Nat) : ∀ i : Nat, St P lag fw w (j : Int) + (i : Int) ≤ St P lag fw w ((j + i : Nat) : Int)
  | 0 => by simp
  | i + 1 => by
    have h := St_step P lag fw w (j + i + 1)
    have h2 := St_mono P lag fw w j i
    unfold fre at h
    rw [if_neg (by omega), show ((j + i + 1 : Nat) : Int) - 1 = ((j + i : Nat) : Int) by omega] at h
    rw [show (j + (i + 1) : Nat) = j + i + 1 by omega]
    omega
set_option maxRecDepth 100000 in
set_option maxHeartbeats 4000000 in
theorem St_lt (P : Int → Int) (lag fw w : Int) {j k : Int} (h0 : 0 ≤ j) (h1 : j ≤ k) : St P lag fw w j + (k - j) ≤ St P lag fw w k := by
  have := St_mono P lag fw w j.toNat (k - j).toNat
  rw [show ((j.toNat : Nat) : Int) = j by omega, show ((j.toNat + (k - j).toNat : Nat) : Int) = k by omega] at this
  omega
set_option maxRecDepth 100000 in
set_option maxHeartbeats 4000000 in
theorem St_rg' (P : Int → Int) (lag fw w : Int) {k : Int} (h0 : 0 ≤ k) : k ≤ St P lag fw w k ∧ St P lag fw w k ≤ 4 * k + 3 := by
  have := St_rg P lag fw w k.toNat
  rw [show ((k.toNat : Nat) : Int) = k by omega] at this
  exact this
set_option maxRecDepth 100000 in
set_option maxHeartbeats 4000000 in
theorem fre_rg (P : Int → Int) (lag fw w : Int) (k : Nat) : 0 ≤ fre (St P lag fw w) k ∧ fre (St P lag fw w) k ≤ 4 * (k : Int) := by
  unfold fre
  split
  · omega
  · have := St_rg' P lag fw w (k := (k : Int) - 1) (by omega)
    omega
set_option maxRecDepth 100000 in
set_option maxHeartbeats 4000000 in
/-- three waits are enough -/
theorem rdy_3 (P : Int → Int) {lag fw w : Int} (hl : lag ≤ 3) (k : Nat) : rdy P (St P lag fw w) lag fw k (fre (St P lag fw w) k + 3) := by
  have key : ∀ r : Int, hit P (St P lag fw w) lag fw k (fre (St P lag fw w) k + 3) r := by
    intro r
    have h1 := lat_rg P k r
    by_cases q : lat P k r < 0
    · exact Or.inl q
    · refine Or.inr (Or.inl ?_)
      have h2 := St_lt P lag fw w (j := lat P k r) (k := (k : Int) - 1) (by omega) (by omega)
      unfold fre
      rw [if_neg (by omega)]
      omega
  exact ⟨Or.inr (key _), Or.inr (key _)⟩
/-! what registers have at last -/
def Vt (_ _ : Int) : Bool := true
def Vp (P : Int → Int) (lag fw w : Int) (k j : Int) : Bool := decide (vis lag fw (St P lag fw w k - St P lag fw w j))
def plM (P : Int → Int) : Int → Tm := Md P Vt
def piM (P : Int → Int) (lag fw w : Int) : Int → Tm := Md P (Vp P lag fw w)
def plT (P : Int → Int) (n : Nat) (r : Int) : Tm := rdT P (plM P) (fun _ => true) n r
def piT (P : Int → Int) (lag fw w : Int) (n : Nat) (r : Int) : Tm := rdT P (piM P lag fw w) (fun _ => true) n r
def bsum (f : Int → Bool) : Nat → Int
  | 0 => 0
  | k + 1 => bsum f k + (if f (k : Int) = true then 2 ^ k else 0)
set_option maxRecDepth 100000 in
set_option maxHeartbeats 4000000 in
theorem bsum_rg (f : Int → Bool) : ∀ k : Nat, 0 ≤ bsum f k ∧ bsum f k < 2 ^ k
  | 0 => by unfold bsum; decide
  | k + 1 => by
    have h := bsum_rg f k
    have e : (2 : Int) ^ (k + 1) = 2 ^ k * 2 := Int.pow_succ 2 k
    unfold bsum
    split <;> omega
set_option maxRecDepth 100000 in
set_option maxHeartbeats 4000000 in
theorem bsum_congr {f g : Int → Bool} : ∀ k : Nat, (∀ j : Int, 0 ≤ j → j < k → f j = g j) → bsum f k = bsum g k
  | 0, _ => rfl
  | k + 1, h => by
    unfold bsum
    rw [h k (by omega) (by omega), bsum_congr k (fun j h0 h1 => h j h0 (by omega))]
set_option maxRecDepth 100000 in
set_option maxHeartbeats 4000000 in
theorem or_bitd : ∀ r : Fin 8, ∀ b : Fin 128, b.val < 2 ^ r.val → pw_or (b.val : Int) (pw_shl 1 (r.val : Int)) = (b.val : Int) + 2 ^ r.val := by decide +kernel
set_option maxRecDepth 100000 in
set_option maxHeartbeats 4000000 in
theorem or_bit {r : Nat} {b : Int} (hr : r < 8) (h0 : 0 ≤ b) (h1 : b < 2 ^ r) : pw_or b (pw_shl 1 (r : Int)) = b + 2 ^ r := by
  have hp : 2 ^ r ≤ 2 ^ 7 := Nat.pow_le_pow_right (by decide) (by omega)
  have e0 : ((2 ^ r : Nat) : Int) = (2 : Int) ^ r := by simp
  have hb : b.toNat < 128 := by
    have : 2 ^ 7 = 128 := by decide
    omega
  have := or_bitd ⟨r, hr⟩ ⟨b.toNat, hb⟩ (by
    show b.toNat < 2 ^ r
    have e : ((2 ^ r : Nat) : Int) = (2 : Int) ^ r := by simp
    omega)
  simpa [Int.toNat_of_nonneg h0] using this
set_option maxRecDepth 100000 in
set_option maxHeartbeats 4000000 in
theorem or_bsum (f : Int → Bool) {k : Nat} (hk : k < 8) : (if f (k : Int) = true then pw_or (bsum f k) (pw_shl 1 (k : Int)) else bsum f k) = bsum f (k + 1) := by
  have h := bsum_rg f k
  rw [bsum]
  split
  · rw [or_bit hk h.1 h.2]
  · omega
noncomputable def dif (P : Int → Int) (lag fw w : Int) (n : Nat) : Int := bsum (fun r => @decide (plT P n r ≠ piT P lag fw w n r) (Classical.propDecidable _)) 4
end PROG
