section CREL
variable {sc : PSc} {Γ : List PTy} {R : PRm}
/-! the class's own places -/
def CAt (Γ : List PTy) (R : PRm) (t sp : Nat) : Prop := (Γ[0]? = some (.inl 10) ∧ R 0 0 = some 1 ∧ R 0 1 = some 3 ∧ R 0 2 = some 7 ∧ R 0 3 = some 49 ∧ R 0 4 = some 50 ∧ R 0 5 = some 51 ∧ R 0 6 = some 58 ∧ R 0 7 = some 62 ∧ R 0 8 = some 79 ∧ R 0 9 = some t ∧ R 0 10 = some sp) ∧ (ReadAt Γ R 1 ∧ SetAt Γ R 3 ∧ HistAt Γ R 7 ∧ FlowAt Γ R 51 ∧ ClosAt Γ R 58 ∧ BrkAt Γ R 62 ∧ Γ[79]? = some (.inl 4)) ∧ (ToldAt Γ R t ∧ ToldAt Γ R sp ∧ ((t = 80 ∧ sp = 92) ∨ (t = 92 ∧ sp = 80))) ∧ (Γ[49]? = some (.inr (2, 2)) ∧ R 49 0 = some 104 ∧ R 49 1 = some 108 ∧ SetAt Γ R 104 ∧ SetAt Γ R 108 ∧ Γ[50]? = some (.inr (1, 2)))
def okF (s : CS) (v : SV) : Prop := SVok v ∧ v.2.2.2.2.2 < 2 ^ (cF s).1
def CTxt (s : CS) (I : PIm) : Prop := I 1 1 = cN s ∧ cN s ≤ 100 ∧ ∀ k : Int, 0 ≤ k → k < cN s → I 2 k = cTx s k ∧ 0 ≤ cTx s k ∧ cTx s k ≤ 255
def CFac (s : CS) (I : PIm) (t : Nat) (tb : Int → Tm) : Prop := FactsIs I t (cF s) tb (I (t + 1) 6) ∧ Tab I (t + 1) (I (t + 1) 6) tb ∧ I (t + 1) 6 ≤ 104 ∧ ∀ u, UT tb (I (t + 1) 6) u ↔ UF (cF s) u
def CImg (s : CS) (I : PIm) : Prop := (I 50 0 = (cIm s 0).1 ∧ ((cIm s 0).1 = 0 ∨ ((cIm s 0).1 = 1 ∧ SetIs I 104 (cIm s 0).2 ∧ okF s (cIm s 0).2))) ∧ (I 50 1 = (cIm s 1).1 ∧ ((cIm s 1).1 = 0 ∨ ((cIm s 1).1 = 1 ∧ SetIs I 108 (cIm s 1).2 ∧ okF s (cIm s 1).2)))
def CSee (s : CS) (I : PIm) : Prop := I 0 11 = cNs s ∧ cNs s ≤ 4 ∧ I 0 12 = unsn (cNs s) (cSeen s)
def CVal (s : CS) (I : PIm) (t sp : Nat) (ps : Int → Nat) (tb : Int → Tm) : Prop := CTxt s I ∧ CFac s I t tb ∧ Base I (sp + 1) ∧ (SetIs I 3 (cNow s) ∧ okF s (cNow s)) ∧ (HIs I 7 ps (cNh s) (cHs s) ∧ ∀ i : Int, 0 ≤ i → i < cNh s → okF s (cHs s i)) ∧ CImg s I ∧ CSee s I ∧ BrkIs I 62
def CRel (Γ : List PTy) (s : CS) (I : PIm) (R : PRm) : Prop := ∃ (t sp : Nat) (ps : Int → Nat) (tb : Int → Tm), CAt Γ R t sp ∧ HPos Γ R 7 ps ∧ CVal s I t sp ps tb
/-- behind a call on the class -/
def CPo (Γ : List PTy) (I0 : PIm) (R0 : PRm) (a : Int) (s' : CS) : PPost := fun v Γ' I' R' => v = some (.inl a) ∧ Γ' = Γ ∧ (∀ q, 112 ≤ q → I' q = I0 q) ∧ (∀ q, 112 ≤ q → R' q = R0 q) ∧ CRel Γ s' I' R'
set_option maxRecDepth 100000 in
set_option maxHeartbeats 1000000 in
theorem CPo.same {I : PIm} {a : Int} {s : CS} (h : CRel Γ s I R) : CPo Γ I R a s (some (.inl a)) Γ I R := ⟨rfl, rfl, fun _ _ => rfl, fun _ _ => rfl, h⟩
set_option maxRecDepth 100000 in
set_option maxHeartbeats 1000000 in
theorem Base.of {I I' : PIm} {h : Nat} (B : Base I h) (he : ∀ q, h + 1 ≤ q → q ≤ h + 5 → I' q = I q) : Base I' h := B.congr (fun q a b k => by rw [he q a b])
set_option maxRecDepth 100000 in
set_option maxHeartbeats 1000000 in
theorem BrkIs.congr {I I' : PIm} {b : Nat} (h : BrkIs I b) (he : ∀ q, b ≤ q → q ≤ b + 16 → I' q = I q) : BrkIs I' b := by
  obtain ⟨a1, a2, a3⟩ := h
  have e1 := he (b + 16) (by omega) (by omega)
  have e5 := he (b + 3) (by omega) (by omega)
  unfold BrkIs
  rw [e1, e5]
  exact ⟨a1.of (fun q a b' => he q (by omega) (by omega)), a2, a3⟩
set_option maxRecDepth 100000 in
set_option maxHeartbeats 1000000 in
/-- what a call leaves as it was -/
theorem CTxt.congr {s s' : CS} {I I' : PIm} (h : CTxt s I) (hs : s'.1 = s.1) (he : ∀ q, q = 1 ∨ q = 2 → I' q = I q) : CTxt s' I' := by
  unfold CTxt cN cTx at h ⊢
  rw [hs, he 1 (by omega), he 2 (by omega)]
  exact h
set_option maxRecDepth 100000 in
set_option maxHeartbeats 1000000 in
theorem Tab.cg {I I' : PIm} {h : Nat} {z : Int} {tb : Int → Tm} (T : Tab I h z tb) (he : ∀ q, h + 1 ≤ q → q ≤ h + 5 → I' q = I q) : Tab I' h z tb := by
  obtain ⟨T0, T1, T2⟩ := T
  refine ⟨T0, fun i h0 h1 => ?_, T2⟩
  have r := T1 i h0 h1
  unfold TabE at r ⊢
  rw [he (h + 1) (by omega) (by omega), he (h + 2) (by omega) (by omega), he (h + 3) (by omega) (by omega), he (h + 4) (by omega) (by omega), he (h + 5) (by omega) (by omega)]
  exact r
set_option maxRecDepth 100000 in
set_option maxHeartbeats 1000000 in
theorem CFac.congr {s s' : CS} {I I' : PIm} {t : Nat} {tb : Int → Tm} (h : CFac s I t tb) (hs : cF s' = cF s) (he : ∀ q, t + 2 ≤ q ∧ q ≤ t + 11 ∨ q = t → I' q = I q) (h6 : I' (t + 1) 6 = I (t + 1) 6) : CFac s' I' t tb := by
  obtain ⟨a, b, c, d⟩ := h
  refine ⟨?_, ?_, ?_, ?_⟩
  · rw [h6, hs]; exact a.grow (fun q w k => by rw [he q (by omega)]) (Int.le_refl _) (fun _ _ => rfl)
  · rw [h6]; exact b.cg (fun q w1 w2 => he q (by omega))
  · rw [h6]; exact c
  · rw [h6, hs]; exact d
set_option maxRecDepth 100000 in
set_option maxHeartbeats 1000000 in
theorem okF.congr {s s' : CS} {v : SV} (h : okF s v) (hs : cF s' = cF s) : okF s' v := by
  unfold okF at h ⊢
  rw [hs]; exact h
set_option maxRecDepth 100000 in
set_option maxHeartbeats 1000000 in
theorem SetIs.cg {I I' : PIm} {q0 : Nat} {v : SV} (h : SetIs I q0 v) (he : ∀ q, q0 ≤ q → q ≤ q0 + 3 → I' q = I q) : SetIs I' q0 v := h.congr (fun q a b k => by rw [he q a b])
set_option maxRecDepth 100000 in
set_option maxHeartbeats 1000000 in
theorem CImg.congr {s s' : CS} {I I' : PIm} (h : CImg s I) (hs : cF s' = cF s) (hi : cIm s' = cIm s) (he : ∀ q, q = 50 ∨ (104 ≤ q ∧ q ≤ 111) → I' q = I q) : CImg s' I' := by
  obtain ⟨⟨a1, a2⟩, b1, b2⟩ := h
  unfold CImg
  rw [hi, he 50 (by omega)]
  exact ⟨⟨a1, a2.imp id (fun w => ⟨w.1, w.2.1.cg (fun q x y => he q (by omega)), w.2.2.congr hs⟩)⟩, b1, b2.imp id (fun w => ⟨w.1, w.2.1.cg (fun q x y => he q (by omega)), w.2.2.congr hs⟩)⟩
set_option maxRecDepth 100000 in
set_option maxHeartbeats 1000000 in
theorem HIs.cg {I I' : PIm} {h n : Nat} {ps : Int → Nat} {Hs : Int → SV} (H : HIs I h ps n Hs) (HP : HPos Γ R h ps) (he : ∀ q, h ≤ q → q ≤ h + 41 → I' q = I q) : HIs I' h ps n Hs := by
  obtain ⟨a, b, c⟩ := H
  refine ⟨by rw [he h (by omega) (by omega)]; exact a, b, fun i i0 i1 => ⟨(c i i0 i1).1.cg (fun q x y => ?_), (c i i0 i1).2⟩⟩
  obtain ⟨-, -, w3, w4⟩ := HP.1 i i0 (by omega)
  exact he q (by omega) (by omega)
end CREL
