section MDEEP
variable {sc : PSc} {Γ : List PTy} {R : PRm}
/-- below a place of the stack nothing changes -/
def StkFr (p : Int) (I I2 : PIm) : Prop := (∀ q, q ≠ 125 → q ≠ 126 → I2 q = I q) ∧ ∀ q k, k < p → I2 q k = I q k
set_option maxRecDepth 100000 in
set_option maxHeartbeats 1000000 in
theorem StkFr.rf (p : Int) (I : PIm) : StkFr p I I := ⟨fun _ _ _ => rfl, fun _ _ _ => rfl⟩
set_option maxRecDepth 100000 in
set_option maxHeartbeats 1000000 in
theorem MTab.kind {I : PIm} {z : Int} {tb : Int → Tm} (T : MTab I z tb) {i : Int} (i0 : 0 ≤ i) (i1 : i < z) : (I 122 i = i ∧ i < 4 ∧ tb i = tc i) ∨ (I 122 i = 4 ∧ (0 ≤ I 123 i ∧ I 123 i < i) ∧ tb i = tf (tb (I 123 i))) ∨ (I 122 i = 5 ∧ (0 ≤ I 123 i ∧ I 123 i < i) ∧ (0 ≤ I 124 i ∧ I 124 i < i) ∧ tb i = tg (tb (I 123 i)) (tb (I 124 i))) := by
  obtain ⟨u, v⟩ := T.2.1 i i0 i1
  by_cases q : i < 4
  · exact Or.inl ⟨(u q).1.1, q, (u q).2⟩
  · rcases v (by omega) with ⟨a, b, c⟩ | ⟨a, b, c, e⟩
    · exact Or.inr (Or.inl ⟨a.1, b, c⟩)
    · exact Or.inr (Or.inr ⟨a.1, b, c, e⟩)
set_option maxRecDepth 100000 in
set_option maxHeartbeats 1000000 in
theorem lp_depth (d : Nat) {I0 : PIm} {post : PPost} {z tm : Int} {tb : Int → Tm} (M : MAt Γ R) (T : MTab I0 z tb) (hz : z ≤ 200) : ∀ (N : Nat) (t p dd_ mo mo2 : Int) (I : PIm) (o2 o5 : Option PV), t.toNat = N → 0 ≤ t → t < z → 0 ≤ p → p + dep (tb t) ≤ 38 → 0 ≤ dd_ → dd_ + dep (tb t) ≤ 1000 → 0 ≤ mo → mo ≤ 1000 → (∀ q, q ≠ 125 → q ≠ 126 → I q = I0 q) → I 125 p = t → I 126 p = dd_ → mo2 = max mo (dd_ + dep (tb t)) → (∀ (I2 : PIm) (o2 o5 : Option PV), (∀ q, q ≠ 125 → q ≠ 126 → I2 q = I0 q) → (∀ q k, k < p → I2 q k = I q k) → PW sc mX11_depth d 0 0 post 21 [some (.inr (some 112)), some (.inl tm), o2, some (.inl mo2), some (.inl p), o5] [] Γ I2 R) → PW sc mX11_depth d 0 0 post 21 [some (.inr (some 112)), some (.inl tm), o2, some (.inl mo), some (.inl (p + 1)), o5] [] Γ I R := by
  intro N
  induction N using Nat.strongRecOn with
  | _ N ih =>
    intro t p dd_ mo mo2 I o2 o5 hN t0 t1 p0 pd d0 dm m0 m1 fr e125 e126 hmo K
    have dn := dep_nonneg (tb t)
    have ep : p + 1 + -1 = p := by omega
    have h122 : I 122 t = I0 122 t := by rw [fr 122 (by omega) (by omega)]
    have h123 : I 123 t = I0 123 t := by rw [fr 123 (by omega) (by omega)]
    have h124 : I 124 t = I0 124 t := by rw [fr 124 (by omega) (by omega)]
    rcases T.kind t0 t1 with ⟨k1, k2, k3⟩ | ⟨k1, k2, k3⟩ | ⟨k1, k2, k3, k4⟩
    · rw [k3, dep_tc] at hmo dm pd
      refine PW.iload (pc := 21) dX11_depth_21 rfl ?_
      refine PW.if_le (pc := 23) (tgt := 136) dX11_depth_23 (by decide) (by first | omega | exact rg_of _) (fun c_23 => ?_) (fun c_23 => ?_)
      · refine PW.iload_n (pc := 136) dX11_depth_136 rfl ?_
        exact PW.ireturn (pc := 137) dX11_depth_137 rfl (rfl)
      · omega
    · sorry
    · sorry
end MDEEP
