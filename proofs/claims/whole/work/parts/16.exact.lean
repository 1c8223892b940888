section PWEXACT
variable {sc : PSc} {μ : PMI} {d kc ks : Nat} {post : PPost} {pc : Nat} {L : List (Option PV)} {st : List PV} {Γ : List PTy} {I : PIm} {R : PRm}
/-- the answer and the memory behind a call, exactly -/
def px (v : Option PV) (Γ1 : List PTy) (I1 : PIm) (R1 : PRm) : PPost := fun v' Γ' I' R' => v' = v ∧ Γ' = Γ1 ∧ I' = I1 ∧ R' = R1
theorem px_rfl {v : Option PV} {Γ1 : List PTy} {I1 : PIm} {R1 : PRm} : px v Γ1 I1 R1 v Γ1 I1 R1 := ⟨rfl, rfl, rfl, rfl⟩
theorem PW.invVx {idx ci n a kc' ks' : Nat} {μ' : PMI} {as st0 : List PV} {v : Option PV} {Γ1 : List PTy} {I1 : PIm} {R1 : PRm} (hd : decode μ.2.1 pc = .ok (.invokevirtual idx, 3)) (hm : pw_MV μ.1.cls idx μ' ci n) (hc : PC sc μ' d kc' ks' (.inr (some a) :: as) Γ I R (px v Γ1 I1 R1)) (hΓ : Γ[a]? = some (.inl ci)) (hn : as.length = n) (hst : st0 = as.reverse ++ .inr (some a) :: st) (hr : st.length ≤ 8)
    (k : PW sc μ (d + 1) kc ks post (pc + 3) L (v.toList ++ st) Γ1 I1 R1) : PW sc μ (d + 1) (kc + kc') (ks + ks') post pc L st0 Γ I R :=
  PW.invV hd hm hc hΓ hn hst hr (fun v' Γ' I' R' h => by obtain ⟨rfl, rfl, rfl, rfl⟩ := h; exact k)
theorem PW.invSx {idx n kc' ks' : Nat} {μ' : PMI} {as st0 : List PV} {v : Option PV} {Γ1 : List PTy} {I1 : PIm} {R1 : PRm} (hd : decode μ.2.1 pc = .ok (.invokestatic idx, 3)) (hm : pw_MS μ.1.cls idx μ' n) (hc : PC sc μ' d kc' ks' as Γ I R (px v Γ1 I1 R1)) (hn : as.length = n) (hst : st0 = as.reverse ++ st) (hr : st.length ≤ 8)
    (k : PW sc μ (d + 1) kc ks post (pc + 3) L (v.toList ++ st) Γ1 I1 R1) : PW sc μ (d + 1) (kc + kc') (ks + ks') post pc L st0 Γ I R :=
  PW.invS hd hm hc hn hst hr (fun v' Γ' I' R' h => by obtain ⟨rfl, rfl, rfl, rfl⟩ := h; exact k)
theorem PW.invIx {idx n a kc' ks' : Nat} {μ' : PMI} {as st0 : List PV} {v : Option PV} {Γ1 : List PTy} {I1 : PIm} {R1 : PRm} (hd : decode μ.2.1 pc = .ok (.invokespecial idx, 3)) (hm : pw_MI μ.1.cls idx μ' n) (hc : PC sc μ' d kc' ks' (.inr (some a) :: as) Γ I R (px v Γ1 I1 R1)) (hn : as.length = n) (hst : st0 = as.reverse ++ .inr (some a) :: st) (hr : st.length ≤ 8)
    (k : PW sc μ (d + 1) kc ks post (pc + 3) L (v.toList ++ st) Γ1 I1 R1) : PW sc μ (d + 1) (kc + kc') (ks + ks') post pc L st0 Γ I R :=
  PW.invI hd hm hc hn hst hr (fun v' Γ' I' R' h => by obtain ⟨rfl, rfl, rfl, rfl⟩ := h; exact k)
theorem PW.invNx {idx n a kc' ks' : Nat} {μ' : PMI} {as st0 : List PV} {v : Option PV} {Γ1 : List PTy} {I1 : PIm} {R1 : PRm} (hd : decode μ.2.1 pc = .ok (.invokespecial idx, 3)) (hm : pw_MN μ.1.cls idx μ' n) (hc : PC sc μ' d kc' ks' (.inr (some a) :: as) Γ I R (px v Γ1 I1 R1)) (hn : as.length = n) (hst : st0 = as.reverse ++ .inr (some a) :: st) (hr : st.length ≤ 8)
    (k : PW sc μ (d + 1) kc ks post (pc + 3) L (v.toList ++ st) Γ1 I1 R1) : PW sc μ (d + 1) (kc + kc') (ks + ks') post pc L st0 Γ I R :=
  PW.invN hd hm hc hn hst hr (fun v' Γ' I' R' h => by obtain ⟨rfl, rfl, rfl, rfl⟩ := h; exact k)
/-- truth as an int -/
def bi (p : Prop) [Decidable p] : Int := if p then 1 else 0
theorem bi_pos {p : Prop} [Decidable p] (h : p) : bi p = 1 := if_pos h
theorem bi_neg {p : Prop} [Decidable p] (h : ¬ p) : bi p = 0 := if_neg h
theorem bi_01 (p : Prop) [Decidable p] : bi p = 0 ∨ bi p = 1 := by unfold bi; split <;> omega
theorem pw_up_self (I : PIm) (a : Nat) (i v : Int) : pw_up I a i v a i = v := by simp [pw_up]
theorem pw_up_other {I : PIm} {a b : Nat} {i j v : Int} (h : ¬ (b = a ∧ j = i)) : pw_up I a i v b j = I b j := if_neg h
theorem pw_upr_self (R : PRm) (a : Nat) (i : Int) (v : Option Nat) : pw_upr R a i v a i = v := by simp [pw_upr]
theorem pw_upr_other {R : PRm} {a b : Nat} {i j : Int} {v : Option Nat} (h : ¬ (b = a ∧ j = i)) : pw_upr R a i v b j = R b j := if_neg h
end PWEXACT
