section CLOSE
variable {sc : PSc} {Γ : List PTy} {R : PRm}
noncomputable def cb (p : Prop) : Int := @ite Int p (Classical.propDecidable p) 1 0
set_option maxRecDepth 100000 in
set_option maxHeartbeats 1000000 in
theorem cb_pos {p : Prop} (h : p) : cb p = 1 := by unfold cb; exact if_pos h
set_option maxRecDepth 100000 in
set_option maxHeartbeats 1000000 in
theorem cb_neg {p : Prop} (h : ¬ p) : cb p = 0 := by unfold cb; exact if_neg h
set_option maxRecDepth 100000 in
set_option maxHeartbeats 1000000 in
theorem cb_01 (p : Prop) : cb p = 0 ∨ cb p = 1 := by
  by_cases h : p
  · exact Or.inr (cb_pos h)
  · exact Or.inl (cb_neg h)
set_option maxRecDepth 100000 in
set_option maxHeartbeats 1000000 in
theorem cb0 {p : Prop} (h : cb p = 0) : ¬ p := fun q => by rw [cb_pos q] at h; exact absurd h (by decide)
set_option maxRecDepth 100000 in
set_option maxHeartbeats 1000000 in
theorem cb1 {p : Prop} (h : ¬ cb p = 0) : p := Classical.byContradiction fun q => h (cb_neg q)
set_option maxRecDepth 100000 in
set_option maxHeartbeats 1000000 in
theorem rg_cb (p : Prop) : Rg (cb p) := by rcases cb_01 p with h | h <;> rw [h] <;> decide
set_option maxRecDepth 100000 in
set_option maxHeartbeats 1000000 in
theorem cb_congr {p q : Prop} (h : p ↔ q) : cb p = cb q := by rw [propext h]
set_option maxRecDepth 100000 in
set_option maxHeartbeats 1000000 in
theorem pxc_pos {I : PIm} {p : Prop} (h : p) : px (some (.inl (cb p))) Γ I R (some (.inl 1)) Γ I R := by rw [cb_pos h]; exact px_rfl
set_option maxRecDepth 100000 in
set_option maxHeartbeats 1000000 in
theorem pxc_neg {I : PIm} {p : Prop} (h : ¬ p) : px (some (.inl (cb p))) Γ I R (some (.inl 0)) Γ I R := by rw [cb_neg h]; exact px_rfl
/-- facts: how many, EQUAL (1) or not (0), their two terms -/
abbrev FS : Type := Nat × (Int → Int) × (Int → Tm) × (Int → Tm)
def inb (fs k : Int) : Prop := pw_and (pw_shr fs k) 1 = 1
def EQ (F : FS) (fs : Int) (a b : Tm) : Prop := ∃ k : Int, 0 ≤ k ∧ k < F.1 ∧ inb fs k ∧ F.2.1 k = 1 ∧ a = F.2.2.1 k ∧ b = F.2.2.2 k
/-- all is RULED OUT -/
def ROut (U : Tm → Prop) (F : FS) (fs : Int) (E : Tm → Tm → Prop) : Prop := ∃ k : Int, 0 ≤ k ∧ k < F.1 ∧ inb fs k ∧ F.2.1 k = 0 ∧ Cl U E (F.2.2.1 k) (F.2.2.2 k)
def FactsIs (I : PIm) (t : Nat) (F : FS) (tb : Int → Tm) (z : Int) : Prop := I t 5 = F.1 ∧ F.1 ≤ 6 ∧ ∀ k : Int, 0 ≤ k → k < F.1 → (I (t + 11) k = F.2.1 k ∧ (F.2.1 k = 0 ∨ F.2.1 k = 1)) ∧ (0 ≤ I (t + 9) k ∧ I (t + 9) k < z ∧ tb (I (t + 9) k) = F.2.2.1 k) ∧ (0 ≤ I (t + 10) k ∧ I (t + 10) k < z ∧ tb (I (t + 10) k) = F.2.2.2 k)
set_option maxRecDepth 100000 in
set_option maxHeartbeats 1000000 in
theorem FactsIs.congr {I I' : PIm} {t : Nat} {F : FS} {tb tb' : Int → Tm} {z z' : Int} (h : FactsIs I t F tb z) (he : ∀ q, q = t ∨ (t + 9 ≤ q ∧ q ≤ t + 11) → ∀ k, I' q k = I q k) (hz : z ≤ z') (ht : ∀ j, 0 ≤ j → j < z → tb' j = tb j) : FactsIs I' t F tb' z' := by
  obtain ⟨a, b, c⟩ := h
  refine ⟨by rw [he t (by omega)]; exact a, b, fun k k0 k1 => ?_⟩
  obtain ⟨c1, ⟨c2, c3, c4⟩, c5, c6, c7⟩ := c k k0 k1
  rw [he (t + 11) (by omega), he (t + 9) (by omega), he (t + 10) (by omega)]
  exact ⟨c1, ⟨c2, by omega, by rw [ht _ c2 c3]; exact c4⟩, c5, by omega, by rw [ht _ c5 c6]; exact c7⟩
def KC (rt : Int → Int) (z : Int) (tb : Int → Tm) (E : Tm → Tm → Prop) : Prop := RtOK rt z ∧ ∀ i j, 0 ≤ i → i < z → 0 ≤ j → j < z → (rt i = rt j ↔ Cl (UT tb z) E (tb i) (tb j))
set_option maxRecDepth 100000 in
set_option maxHeartbeats 1000000 in
theorem KC.congr {rt rt' : Int → Int} {z : Int} {tb : Int → Tm} {E : Tm → Tm → Prop} (h : KC rt z tb E) (he : ∀ i, 0 ≤ i → i < z → rt' i = rt i) : KC rt' z tb E := ⟨h.1.congr he, fun i j i0 i1 j0 j1 => by rw [he i i0 i1, he j j0 j1]; exact h.2 i j i0 i1 j0 j1⟩
set_option maxRecDepth 100000 in
set_option maxHeartbeats 1000000 in
theorem KC.add {rt rt' : Int → Int} {z a b : Int} {tb : Int → Tm} {E : Tm → Tm → Prop} (h : KC rt z tb E) (T : PTab tb z) (hE : ∀ x y, E x y → UT tb z x ∧ UT tb z y) (a0 : 0 ≤ a) (a1 : a < z) (b0 : 0 ≤ b) (b1 : b < z) (P : Prog (mrg rt a b) rt' z tb) (hC : RtC rt' z tb) : KC rt' z tb (fun x y => E x y ∨ (x = tb a ∧ y = tb b)) := by
  have cc := Cl.cc (UT tb z) (fun x y => E x y ∨ (x = tb a ∧ y = tb b))
  have s0 : RtS rt z tb (Cl (UT tb z) (fun x y => E x y ∨ (x = tb a ∧ y = tb b))) := fun i j i0 i1 j0 j1 e => Cl.mono (fun _ _ q => Or.inl q) ((h.2 i j i0 i1 j0 j1).mp e)
  have s1 := P.2.2 _ cc (mrg_s cc s0 a0 a1 b0 b1 (Cl.of (Or.inr ⟨rfl, rfl⟩)))
  refine ⟨P.1, fun i j i0 i1 j0 j1 => ⟨s1 i j i0 i1 j0 j1, fun q => rt_complete T hC ?_ i0 i1 j0 j1 q⟩⟩
  rintro x y (e | ⟨e1, e2⟩)
  · obtain ⟨⟨l, l0, l1, el⟩, m, m0, m1, em⟩ := hE x y e
    refine ⟨l, m, l0, l1, m0, m1, el, em, P.2.1 l m l0 l1 m0 m1 (mrg_r rt z a b l m l0 l1 m0 m1 ((h.2 l m l0 l1 m0 m1).mpr ?_))⟩
    rw [el, em]
    exact Cl.of e
  · exact ⟨a, b, a0, a1, b0, b1, e1.symm, e2.symm, P.2.1 a b a0 a1 b0 b1 (mrg_eq rt a b)⟩
set_option maxRecDepth 100000 in
set_option maxHeartbeats 1000000 in
theorem ToldAt.congr {R' : PRm} {t : Nat} (T : ToldAt Γ R t) (h : ∀ q, t ≤ q → q ≤ t + 11 → R' q = R q) : ToldAt Γ R' t := by
  obtain ⟨a0, a1, a2, a3, a4, a5, a6, a7, a8, ⟨b0, b1, b2, b3, b4, b5, b6⟩, c0, c1, c2⟩ := T
  exact ⟨a0, by rw [h _ (by omega) (by omega)]; exact a1, by rw [h _ (by omega) (by omega)]; exact a2, by rw [h _ (by omega) (by omega)]; exact a3, by rw [h _ (by omega) (by omega)]; exact a4, by rw [h _ (by omega) (by omega)]; exact a5, a6, a7, a8, ⟨b0, by rw [h _ (by omega) (by omega)]; exact b1, by rw [h _ (by omega) (by omega)]; exact b2, by rw [h _ (by omega) (by omega)]; exact b3, by rw [h _ (by omega) (by omega)]; exact b4, by rw [h _ (by omega) (by omega)]; exact b5, b6⟩, c0, by rw [h _ (by omega) (by omega)]; exact c1, c2⟩
set_option maxRecDepth 100000 in
set_option maxHeartbeats 1000000 in
theorem ClosAt.put {c q : Nat} (K : ClosAt Γ R c) : ClosAt Γ (pw_upr R c 3 (some q)) c := by
  obtain ⟨k0, k1, k2, k3, k4, k5, k6⟩ := K
  exact ⟨k0, by rw [pw_upr_other (by omega)]; exact k1, by rw [pw_upr_other (by omega)]; exact k2, by rw [pw_upr_other (by omega)]; exact k3, k4, k5, k6⟩
set_option maxRecDepth 100000 in
set_option maxHeartbeats 1000000 in
theorem c_X1_closeBy (d : Nat) {I0 : PIm} {c t zn : Nat} {tb : Int → Tm} {F : FS} {fs : Int} (K : ClosAt Γ R c) (T : ToldAt Γ R t) (hz : I0 (t + 1) 5 = zn) (TB : Tab I0 (t + 1) zn tb) (hz2 : zn ≤ 116) (hF : FactsIs I0 t F tb zn) (hdj : c + 3 < t ∨ t + 11 < c) :
    PC sc mX1_closeBy (d + 3) 0 0 [.inr (some c), .inr (some t), .inl fs] Γ I0 R (fun v Γ' I' R' => v = none ∧ Γ' = Γ ∧ R' = pw_upr R c 3 (some (t + 1)) ∧ (∀ q z, ¬ (c ≤ q ∧ q ≤ c + 3) → I' q z = I0 q z) ∧ I' c 4 = zn ∧ KC (I' (c + 1)) zn tb (EQ F fs)) := by
  have K1 := K.put (q := t + 1)
  have T1 : ToldAt Γ (pw_upr R c 3 (some (t + 1))) t := T.congr (fun q a b => pw_upr_ne q (by omega))
  have t1 := T.2.1
  have k0 := K.1
  obtain ⟨hF1, hF2, hF3⟩ := id hF
  have h4 := TB.1
  have hT : pw_upr R c 3 (some (t + 1)) c 3 = some (t + 1) := pw_upr_self _ _ _ _
  generalize hR1 : pw_upr R c 3 (some (t + 1)) = R1 at K1 T1 hT
  obtain ⟨j0, j1, j2, j3, j4, j5, j6⟩ := id K1
  obtain ⟨s0, s1, s2, s3, s4, s5, s6, s7, s8, s9, s10⟩ := id T1
  have s9' := s9.1
  have cc := Cl.cc (UT tb zn) (EQ F fs)
  have fin : ∀ (I : PIm), (∀ q z, ¬ (c ≤ q ∧ q ≤ c + 3) → I q z = I0 q z) → I c 4 = zn → RtOK (I (c + 1)) zn → RtS (I (c + 1)) zn tb (Cl (UT tb zn) (EQ F fs)) → (∀ k : Int, 0 ≤ k → k < F.1 → inb fs k → F.2.1 k = 1 → I (c + 1) (I0 (t + 9) k) = I (c + 1) (I0 (t + 10) k)) → ∀ o : Option PV, PW sc mX1_closeBy (d + 3) 0 0 (fun v Γ' I' R' => v = none ∧ Γ' = Γ ∧ R' = R1 ∧ (∀ q z, ¬ (c ≤ q ∧ q ≤ c + 3) → I' q z = I0 q z) ∧ I' c 4 = zn ∧ KC (I' (c + 1)) zn tb (EQ F fs)) 95 [some (.inr (some c)), some (.inr (some t)), some (.inl fs), o] [] Γ I R1 := by
    intro I fr ez hr hs he o
    have TBI : Tab I (t + 1) zn tb := TB.congr (fun q a b k => fr q k (by omega))
    refine PW.aload_n (pc := 95) dX1_closeBy_95 rfl ?_
    refine PW.invV0 (pc := 96) dX1_closeBy_96 mv_X1_59 (c_X1_spread _ K1 hT s9 ez TBI (by omega) hz2 hr (by omega)) (by first | assumption | rfl) rfl rfl (Nat.le_of_ble_eq_true rfl) ?_
    (rintro v Γ' I' R' ⟨rfl, rfl, rfl, m1, m2, m3⟩)
    exact PW.vreturn (pc := 99) dX1_closeBy_99 rfl (⟨rfl, rfl, rfl, fun q z hq => by rw [m1 q z (by omega), fr q z hq], by rw [m1 c 4 (by omega)]; exact ez, m2.1, fun i j i0 i1 j0 j1 => ⟨(m2.2.2 _ cc hs) i j i0 i1 j0 j1, fun q => rt_complete TB.ptab m3 (fun x y e => by obtain ⟨k, k0, k1, k2, k3, rfl, rfl⟩ := e; obtain ⟨-, ⟨c2, c3, c4⟩, c5, c6, c7⟩ := hF3 k k0 k1; exact ⟨_, _, c2, c3, c5, c6, c4, c7, m2.2.1 _ _ c2 c3 c5 c6 (he k k0 k1 k2 k3)⟩) i0 i1 j0 j1 q⟩⟩)
  have loop2 : ∀ (N k : Nat) (I : PIm), F.1 - k = N → k ≤ F.1 → (∀ q z, ¬ (c ≤ q ∧ q ≤ c + 3) → I q z = I0 q z) → I c 4 = zn → RtOK (I (c + 1)) zn → RtS (I (c + 1)) zn tb (Cl (UT tb zn) (EQ F fs)) → (∀ k' : Int, 0 ≤ k' → k' < k → inb fs k' → F.2.1 k' = 1 → I (c + 1) (I0 (t + 9) k') = I (c + 1) (I0 (t + 10) k')) → PW sc mX1_closeBy (d + 3) 0 0 (fun v Γ' I' R' => v = none ∧ Γ' = Γ ∧ R' = R1 ∧ (∀ q z, ¬ (c ≤ q ∧ q ≤ c + 3) → I' q z = I0 q z) ∧ I' c 4 = zn ∧ KC (I' (c + 1)) zn tb (EQ F fs)) 49 [some (.inr (some c)), some (.inr (some t)), some (.inl fs), some (.inl (k : Int))] [] Γ I R1 := by
    intro N
    induction N using Nat.strongRecOn with
    | _ N ih =>
      intro k I hN hk fr ez hr hs he
      have e5 : I t 5 = F.1 := by rw [fr t 5 (by omega)]; exact hF1
      by_cases hlt : k < F.1
      · obtain ⟨⟨c0, c1⟩, ⟨c2, c3, c4⟩, c5, c6, c7⟩ := hF3 (k : Int) (by omega) (by omega)
        have ea : I (t + 11) (k : Int) = F.2.1 (k : Int) := by rw [fr _ _ (by omega)]; exact c0
        have e9 : I (t + 9) (k : Int) = I0 (t + 9) (k : Int) := fr _ _ (by omega)
        have e10 : I (t + 10) (k : Int) = I0 (t + 10) (k : Int) := fr _ _ (by omega)
        have skip : ¬ (inb fs (k : Int) ∧ F.2.1 (k : Int) = 1) → PW sc mX1_closeBy (d + 3) 0 0 (fun v Γ' I' R' => v = none ∧ Γ' = Γ ∧ R' = R1 ∧ (∀ q z, ¬ (c ≤ q ∧ q ≤ c + 3) → I' q z = I0 q z) ∧ I' c 4 = zn ∧ KC (I' (c + 1)) zn tb (EQ F fs)) 89 [some (.inr (some c)), some (.inr (some t)), some (.inl fs), some (.inl (k : Int))] [] Γ I R1 := by
          intro hno
          refine PW.iinc (pc := 89) dX1_closeBy_89 rfl (by decide) ?_
          refine PW.goto (pc := 92) (tgt := 49) dX1_closeBy_92 (by decide) ?_
          exact ih (F.1 - (k + 1)) (by omega) (k + 1) I rfl (by omega) fr ez hr hs (fun k' q0 q1 q2 q3 => by by_cases q : k' = (k : Int); (· rw [q] at q2 q3; exact absurd ⟨q2, q3⟩ hno); (· exact he k' q0 (by omega) q2 q3))
        refine PW.iload_n (pc := 49) dX1_closeBy_49 rfl ?_
        refine PW.aload_n (pc := 50) dX1_closeBy_50 rfl ?_
        refine PW.geti (pc := 51) dX1_closeBy_51 fl_X1_41 (by decide) (by first | assumption | rfl) ?_
        rw [e5]
        refine PW.icmp_ge (pc := 54) (tgt := 95) dX1_closeBy_54 (by decide) (by first | omega | exact rg_of _) (by first | omega | exact rg_of _) (fun c_54 => ?_) (fun c_54 => ?_)
        · omega
        · refine PW.iload_n (pc := 57) dX1_closeBy_57 rfl ?_
          refine PW.iload_n (pc := 58) dX1_closeBy_58 rfl ?_
          refine PW.ishr (pc := 59) dX1_closeBy_59 ?_
          refine PW.iconst (pc := 60) dX1_closeBy_60 ?_
          refine PW.iand (pc := 61) dX1_closeBy_61 ?_
          refine PW.iconst (pc := 62) dX1_closeBy_62 ?_
          refine PW.icmp_ne (pc := 63) (tgt := 89) dX1_closeBy_63 (by decide) (by first | omega | exact rg_of _) (by first | omega | exact rg_of _) (fun c_63 => ?_) (fun c_63 => ?_)
          · first | exact skip (fun q => c_63 q.1) | exact skip (fun q => by omega)
          · refine PW.aload_n (pc := 66) dX1_closeBy_66 rfl ?_
            refine PW.getr (pc := 67) dX1_closeBy_67 fl_X1_44 (by first | assumption | rfl) (by first | assumption | rfl) ?_
            refine PW.iload_n (pc := 70) dX1_closeBy_70 rfl ?_
            refine PW.zald (pc := 71) dX1_closeBy_71 (by first | assumption | rfl) (by omega) (by omega) (by omega) ?_
            rw [ea]
            refine PW.if_eq (pc := 72) (tgt := 89) dX1_closeBy_72 (by decide) (by first | omega | exact rg_of _) (fun c_72 => ?_) (fun c_72 => ?_)
            · first | exact skip (fun q => c_63 q.1) | exact skip (fun q => by omega)
            · refine PW.aload_n (pc := 75) dX1_closeBy_75 rfl ?_
              refine PW.aload_n (pc := 76) dX1_closeBy_76 rfl ?_
              refine PW.iload_n (pc := 77) dX1_closeBy_77 rfl ?_
              refine PW.invV0x (pc := 78) dX1_closeBy_78 mv_X1_48 (c_X9_firstOf _ T1 (by omega) (by omega)) (by first | assumption | rfl) rfl rfl (Nat.le_of_ble_eq_true rfl) ?_
              refine PW.aload_n (pc := 81) dX1_closeBy_81 rfl ?_
              refine PW.iload_n (pc := 82) dX1_closeBy_82 rfl ?_
              refine PW.invV0x (pc := 83) dX1_closeBy_83 mv_X1_52 (c_X9_secondOf _ T1 (by omega) (by omega)) (by first | assumption | rfl) rfl rfl (Nat.le_of_ble_eq_true rfl) ?_
              rw [e9, e10]
              refine PW.invV0 (pc := 86) dX1_closeBy_86 mv_X1_55 (c_X1_merge _ K1 (by omega) (by rw [ez]; exact hr) (by omega) (by omega)) (by first | assumption | rfl) rfl rfl (Nat.le_of_ble_eq_true rfl) ?_
              (rintro v Γ' I' R' ⟨rfl, rfl, rfl, m1, m2⟩; rw [ez] at m2)
              refine PW.iinc (pc := 89) dX1_closeBy_89 rfl (by decide) ?_
              refine PW.goto (pc := 92) (tgt := 49) dX1_closeBy_92 (by decide) ?_
              have hcl : Cl (UT tb zn) (EQ F fs) (tb (I0 (t + 9) (k : Int))) (tb (I0 (t + 10) (k : Int))) := Cl.of ⟨k, by omega, by omega, c_63, by omega, c4, c7⟩
              exact ih (F.1 - (k + 1)) (by omega) (k + 1) I' rfl (by omega) (fun q z hq => by rw [m1 q z (by omega), fr q z hq]) (by rw [m1 c 4 (by omega)]; exact ez) ((mrg_ok hr c2 c3 c5 c6).congr m2) ((mrg_s cc hs c2 c3 c5 c6 hcl).congr m2) (fun k' q0 q1 q2 q3 => by
                by_cases q : k' = (k : Int)
                · rw [q, m2 _ c2 c3, m2 _ c5 c6]
                  exact mrg_eq _ _ _
                · obtain ⟨-, ⟨g2, g3, g4⟩, g5, g6, g7⟩ := hF3 k' q0 (by omega)
                  rw [m2 _ g2 g3, m2 _ g5 g6]
                  exact mrg_r _ zn _ _ _ _ g2 g3 g5 g6 (he k' q0 (by omega) q2 q3))
      · obtain rfl : k = F.1 := by omega
        refine PW.iload_n (pc := 49) dX1_closeBy_49 rfl ?_
        refine PW.aload_n (pc := 50) dX1_closeBy_50 rfl ?_
        refine PW.geti (pc := 51) dX1_closeBy_51 fl_X1_41 (by decide) (by first | assumption | rfl) ?_
        rw [e5]
        refine PW.icmp_ge (pc := 54) (tgt := 95) dX1_closeBy_54 (by decide) (by first | omega | exact rg_of _) (by first | omega | exact rg_of _) (fun c_54 => ?_) (fun c_54 => ?_)
        · exact fin I fr ez hr hs he _
        · omega
  have loop1 : ∀ (N k : Nat) (I : PIm), zn - k = N → k ≤ zn → (∀ q z, ¬ (c ≤ q ∧ q ≤ c + 3) → I q z = I0 q z) → I c 4 = zn → (∀ i : Int, 0 ≤ i → i < k → I (c + 1) i = i) → PW sc mX1_closeBy (d + 3) 0 0 (fun v Γ' I' R' => v = none ∧ Γ' = Γ ∧ R' = R1 ∧ (∀ q z, ¬ (c ≤ q ∧ q ≤ c + 3) → I' q z = I0 q z) ∧ I' c 4 = zn ∧ KC (I' (c + 1)) zn tb (EQ F fs)) 26 [some (.inr (some c)), some (.inr (some t)), some (.inl fs), some (.inl (k : Int))] [] Γ I R1 := by
    intro N
    induction N using Nat.strongRecOn with
    | _ N ih =>
      intro k I hN hk fr ez hid
      by_cases hlt : k < zn
      · refine PW.iload_n (pc := 26) dX1_closeBy_26 rfl ?_
        refine PW.aload_n (pc := 27) dX1_closeBy_27 rfl ?_
        refine PW.geti (pc := 28) dX1_closeBy_28 fl_X1_40 (by decide) (by first | assumption | rfl) ?_
        rw [ez]
        refine PW.icmp_ge (pc := 31) (tgt := 47) dX1_closeBy_31 (by decide) (by first | omega | exact rg_of _) (by first | omega | exact rg_of _) (fun c_31 => ?_) (fun c_31 => ?_)
        · omega
        · refine PW.aload_n (pc := 34) dX1_closeBy_34 rfl ?_
          refine PW.getr (pc := 35) dX1_closeBy_35 fl_X1_9 (by first | assumption | rfl) (by first | assumption | rfl) ?_
          refine PW.iload_n (pc := 38) dX1_closeBy_38 rfl ?_
          refine PW.iload_n (pc := 39) dX1_closeBy_39 rfl ?_
          refine PW.iast (pc := 40) dX1_closeBy_40 (by first | assumption | rfl) (by omega) (by omega) (by omega) ?_
          refine PW.iinc (pc := 41) dX1_closeBy_41 rfl (by decide) ?_
          refine PW.goto (pc := 44) (tgt := 26) dX1_closeBy_44 (by decide) ?_
          exact ih (zn - (k + 1)) (by omega) (k + 1) _ rfl (by omega) (fun q z hq => by rw [pw_up_other (by omega), fr q z hq]) (by rw [pw_up_other (by omega)]; exact ez) (fun i i0 i1 => by by_cases q : i = (k : Int); (· rw [q, pw_up_self]); (· rw [pw_up_other (by omega), hid i i0 (by omega)]))
      · obtain rfl : k = zn := by omega
        refine PW.iload_n (pc := 26) dX1_closeBy_26 rfl ?_
        refine PW.aload_n (pc := 27) dX1_closeBy_27 rfl ?_
        refine PW.geti (pc := 28) dX1_closeBy_28 fl_X1_40 (by decide) (by first | assumption | rfl) ?_
        rw [ez]
        refine PW.icmp_ge (pc := 31) (tgt := 47) dX1_closeBy_31 (by decide) (by first | omega | exact rg_of _) (by first | omega | exact rg_of _) (fun c_31 => ?_) (fun c_31 => ?_)
        · refine PW.iconst (pc := 47) dX1_closeBy_47 ?_
          refine PW.istore_n (pc := 48) dX1_closeBy_48 (by decide) ?_
          exact loop2 F.1 0 I (by omega) (by omega) fr ez (fun i i0 i1 => by rw [hid i i0 i1, hid i i0 i1]; exact ⟨i0, i1, rfl⟩) (fun i j i0 i1 j0 j1 e => by rw [hid i i0 i1, hid j j0 j1] at e; rw [e]; exact cc.1 _) (fun k' q0 q1 => by omega)
        · omega
  have hm : min (I0 (t + 1) 5) 116 = zn := by rw [hz, Int.min_eq_left (by omega)]
  refine PC.ofPW (by decide) (Nat.le_of_ble_eq_true rfl) ?_
  refine PW.aload_n (pc := 0) dX1_closeBy_0 rfl ?_
  refine PW.aload_n (pc := 1) dX1_closeBy_1 rfl ?_
  refine PW.getr (pc := 2) dX1_closeBy_2 fl_X1_21 (by first | assumption | rfl) (by first | assumption | rfl) ?_
  refine PW.putr (pc := 5) dX1_closeBy_5 fl_X1_27 (by first | assumption | rfl) ?_
  rw [hR1]
  refine PW.aload_n (pc := 8) dX1_closeBy_8 rfl ?_
  refine PW.aload_n (pc := 9) dX1_closeBy_9 rfl ?_
  refine PW.getr (pc := 10) dX1_closeBy_10 fl_X1_27 (by first | assumption | rfl) (by first | assumption | rfl) ?_
  refine PW.geti (pc := 13) dX1_closeBy_13 fl_X1_28 (by decide) (by first | assumption | rfl) ?_
  refine PW.bipush (pc := 16) dX1_closeBy_16 (by decide) ?_
  refine PW.mmin (pc := 18) dX1_closeBy_18 mm_X1_34 (by first | omega | exact rg_of _) (by first | omega | exact rg_of _) (Nat.le_of_ble_eq_true rfl) ?_
  rw [hm]
  refine PW.puti (pc := 21) dX1_closeBy_21 fl_X1_40 (by first | assumption | rfl) ?_
  refine PW.iconst (pc := 24) dX1_closeBy_24 ?_
  refine PW.istore_n (pc := 25) dX1_closeBy_25 (by decide) ?_
  exact loop1 zn 0 _ (by omega) (by omega) (fun q z hq => pw_up_other (by omega)) (pw_up_self _ _ _ _) (fun i i0 i1 => by omega)
set_option maxRecDepth 100000 in
set_option maxHeartbeats 1000000 in
theorem c_X1_assume (d : Nat) {I0 : PIm} {c h N0 zn : Nat} {tb : Int → Tm} {E : Tm → Tm → Prop} {a b : Int} (K : ClosAt Γ R c) (hT : R c 3 = some h) (T : TermsAt Γ R h N0) (hz : I0 c 4 = zn) (TB : Tab I0 h zn tb) (hN : zn ≤ N0) (hz2 : zn ≤ 116) (hk : KC (I0 (c + 1)) zn tb E) (hE : ∀ x y, E x y → UT tb zn x ∧ UT tb zn y) (hdj : c + 3 < h ∨ h + 5 < c) (ha : 0 ≤ a ∧ a < zn) (hb : 0 ≤ b ∧ b < zn) :
    PC sc mX1_assume (d + 3) 0 0 [.inr (some c), .inl a, .inl b] Γ I0 R (fun v Γ' I' R' => v = none ∧ Γ' = Γ ∧ R' = R ∧ (∀ q z, ¬ (c + 1 ≤ q ∧ q ≤ c + 3) → I' q z = I0 q z) ∧ KC (I' (c + 1)) zn tb (fun x y => E x y ∨ (x = tb a ∧ y = tb b))) := by
  have k0 := K.1
  refine PC.ofPW (by decide) (Nat.le_of_ble_eq_true rfl) ?_
  refine PW.aload_n (pc := 0) dX1_assume_0 rfl ?_
  refine PW.iload_n (pc := 1) dX1_assume_1 rfl ?_
  refine PW.iload_n (pc := 2) dX1_assume_2 rfl ?_
  refine PW.invV0 (pc := 3) dX1_assume_3 mv_X1_55 (c_X1_merge _ K (by omega) (by rw [hz]; exact hk.1) (by omega) (by omega)) (by first | assumption | rfl) rfl rfl (Nat.le_of_ble_eq_true rfl) ?_
  (rintro v Γ' I' R' ⟨rfl, rfl, rfl, m1, m2⟩; rw [hz] at m2)
  refine PW.aload_n (pc := 6) dX1_assume_6 rfl ?_
  refine PW.invV0 (pc := 7) dX1_assume_7 mv_X1_59 (c_X1_spread _ K hT T (by rw [m1 c 4 (by omega)]; exact hz) (TB.congr (fun q a b k => m1 q k (by omega))) hN hz2 ((mrg_ok hk.1 ha.1 ha.2 hb.1 hb.2).congr m2) hdj) (by first | assumption | rfl) rfl rfl (Nat.le_of_ble_eq_true rfl) ?_
  (rintro v Γ' I'' R' ⟨rfl, rfl, rfl, n1, n2, n3⟩)
  exact PW.vreturn (pc := 10) dX1_assume_10 rfl (⟨rfl, rfl, rfl, fun q z hq => by rw [n1 q z hq, m1 q z (by omega)], hk.add TB.ptab hE ha.1 ha.2 hb.1 hb.2 ⟨n2.1, fun i j i0 i1 j0 j1 e => n2.2.1 i j i0 i1 j0 j1 (by rw [m2 i i0 i1, m2 j j0 j1]; exact e), fun C hC hs => n2.2.2 C hC (hs.congr m2)⟩ n3⟩)
set_option maxRecDepth 100000 in
set_option maxHeartbeats 1000000 in
theorem c_X1_rulesOut (d : Nat) {I : PIm} {c t zn : Nat} {tb : Int → Tm} {F : FS} {fs : Int} {E : Tm → Tm → Prop} (K : ClosAt Γ R c) (T : ToldAt Γ R t) (hz : I c 4 = zn) (hz2 : zn ≤ 116) (hF : FactsIs I t F tb zn) (hk : KC (I (c + 1)) zn tb E) : PC sc mX1_rulesOut (d + 2) 0 0 [.inr (some c), .inr (some t), .inl fs] Γ I R (px (some (.inl (cb (ROut (UT tb zn) F fs E)))) Γ I R) := by
  have k0 := K.1
  obtain ⟨s0, s1, s2, s3, s4, s5, s6, s7, s8, s9, s10⟩ := id T
  obtain ⟨hF1, hF2, hF3⟩ := id hF
  have loop : ∀ (N k : Nat), F.1 - k = N → k ≤ F.1 → (∀ k' : Int, 0 ≤ k' → k' < k → ¬ (inb fs k' ∧ F.2.1 k' = 0 ∧ Cl (UT tb zn) E (F.2.2.1 k') (F.2.2.2 k'))) → PW sc mX1_rulesOut (d + 2) 0 0 (px (some (.inl (cb (ROut (UT tb zn) F fs E)))) Γ I R) 2 [some (.inr (some c)), some (.inr (some t)), some (.inl fs), some (.inl (k : Int))] [] Γ I R := by
    intro N
    induction N using Nat.strongRecOn with
    | _ N ih =>
      intro k hN hk' hno
      by_cases hlt : k < F.1
      · obtain ⟨⟨c0, c1⟩, ⟨c2, c3, c4⟩, c5, c6, c7⟩ := hF3 (k : Int) (by omega) (by omega)
        have hiff := hk.2 _ _ c2 c3 c5 c6
        rw [c4, c7] at hiff
        have skip : ¬ (inb fs (k : Int) ∧ F.2.1 (k : Int) = 0 ∧ Cl (UT tb zn) E (F.2.2.1 k) (F.2.2.2 k)) → PW sc mX1_rulesOut (d + 2) 0 0 (px (some (.inl (cb (ROut (UT tb zn) F fs E)))) Γ I R) 47 [some (.inr (some c)), some (.inr (some t)), some (.inl fs), some (.inl (k : Int))] [] Γ I R := by
          intro hne
          refine PW.iinc (pc := 47) dX1_rulesOut_47 rfl (by decide) ?_
          refine PW.goto (pc := 50) (tgt := 2) dX1_rulesOut_50 (by decide) ?_
          exact ih (F.1 - (k + 1)) (by omega) (k + 1) rfl (by omega) (fun k' q0 q1 => by by_cases q : k' = (k : Int); (· rw [q]; exact hne); (· exact hno k' q0 (by omega)))
        refine PW.iload_n (pc := 2) dX1_rulesOut_2 rfl ?_
        refine PW.aload_n (pc := 3) dX1_rulesOut_3 rfl ?_
        refine PW.geti (pc := 4) dX1_rulesOut_4 fl_X1_41 (by decide) (by first | assumption | rfl) ?_
        rw [hF1]
        refine PW.icmp_ge (pc := 7) (tgt := 53) dX1_rulesOut_7 (by decide) (by first | omega | exact rg_of _) (by first | omega | exact rg_of _) (fun c_7 => ?_) (fun c_7 => ?_)
        · omega
        · refine PW.iload_n (pc := 10) dX1_rulesOut_10 rfl ?_
          refine PW.iload_n (pc := 11) dX1_rulesOut_11 rfl ?_
          refine PW.ishr (pc := 12) dX1_rulesOut_12 ?_
          refine PW.iconst (pc := 13) dX1_rulesOut_13 ?_
          refine PW.iand (pc := 14) dX1_rulesOut_14 ?_
          refine PW.iconst (pc := 15) dX1_rulesOut_15 ?_
          refine PW.icmp_ne (pc := 16) (tgt := 47) dX1_rulesOut_16 (by decide) (by first | omega | exact rg_of _) (by first | omega | exact rg_of _) (fun c_16 => ?_) (fun c_16 => ?_)
          · first | exact skip (fun q => c_16 q.1) | exact skip (fun q => bi0 c_42 (hiff.mpr q.2.2)) | exact skip (fun q => by omega)
          · refine PW.aload_n (pc := 19) dX1_rulesOut_19 rfl ?_
            refine PW.getr (pc := 20) dX1_rulesOut_20 fl_X1_44 (by first | assumption | rfl) (by first | assumption | rfl) ?_
            refine PW.iload_n (pc := 23) dX1_rulesOut_23 rfl ?_
            refine PW.zald (pc := 24) dX1_rulesOut_24 (by first | assumption | rfl) (by omega) (by omega) (by omega) ?_
            rw [c0]
            refine PW.if_ne (pc := 25) (tgt := 47) dX1_rulesOut_25 (by decide) (by first | omega | exact rg_of _) (fun c_25 => ?_) (fun c_25 => ?_)
            · first | exact skip (fun q => c_16 q.1) | exact skip (fun q => bi0 c_42 (hiff.mpr q.2.2)) | exact skip (fun q => by omega)
            · refine PW.aload_n (pc := 28) dX1_rulesOut_28 rfl ?_
              refine PW.aload_n (pc := 29) dX1_rulesOut_29 rfl ?_
              refine PW.iload_n (pc := 30) dX1_rulesOut_30 rfl ?_
              refine PW.invV0x (pc := 31) dX1_rulesOut_31 mv_X1_48 (c_X9_firstOf _ T (by omega) (by omega)) (by first | assumption | rfl) rfl rfl (Nat.le_of_ble_eq_true rfl) ?_
              refine PW.aload_n (pc := 34) dX1_rulesOut_34 rfl ?_
              refine PW.iload_n (pc := 35) dX1_rulesOut_35 rfl ?_
              refine PW.invV0x (pc := 36) dX1_rulesOut_36 mv_X1_52 (c_X9_secondOf _ T (by omega) (by omega)) (by first | assumption | rfl) rfl rfl (Nat.le_of_ble_eq_true rfl) ?_
              refine PW.invV0x (pc := 39) dX1_rulesOut_39 mv_X1_62 (c_X1_same _ K (by omega) (fun i i0 i1 => by have := hk.1 i i0 (by omega); omega) (by omega) (by omega)) (by first | assumption | rfl) rfl rfl (Nat.le_of_ble_eq_true rfl) ?_
              refine PW.if_eq (pc := 42) (tgt := 47) dX1_rulesOut_42 (by decide) (rg_bi _) (fun c_42 => ?_) (fun c_42 => ?_)
              · first | exact skip (fun q => c_16 q.1) | exact skip (fun q => bi0 c_42 (hiff.mpr q.2.2)) | exact skip (fun q => by omega)
              · refine PW.iconst (pc := 45) dX1_rulesOut_45 ?_
                exact PW.zreturn (pc := 46) dX1_rulesOut_46 rfl (by first | exact Or.inl rfl | exact Or.inr rfl | omega) (pxc_pos ⟨k, by omega, by omega, c_16, by omega, hiff.mp (bi1 c_42)⟩)
      · obtain rfl : k = F.1 := by omega
        refine PW.iload_n (pc := 2) dX1_rulesOut_2 rfl ?_
        refine PW.aload_n (pc := 3) dX1_rulesOut_3 rfl ?_
        refine PW.geti (pc := 4) dX1_rulesOut_4 fl_X1_41 (by decide) (by first | assumption | rfl) ?_
        rw [hF1]
        refine PW.icmp_ge (pc := 7) (tgt := 53) dX1_rulesOut_7 (by decide) (by first | omega | exact rg_of _) (by first | omega | exact rg_of _) (fun c_7 => ?_) (fun c_7 => ?_)
        · refine PW.iconst (pc := 53) dX1_rulesOut_53 ?_
          exact PW.zreturn (pc := 54) dX1_rulesOut_54 rfl (by first | exact Or.inl rfl | exact Or.inr rfl | omega) (pxc_neg (fun q => by obtain ⟨k', q0, q1, q2, q3, q4⟩ := q; exact hno k' q0 q1 ⟨q2, q3, q4⟩))
        · omega
  refine PC.ofPW (by decide) (Nat.le_of_ble_eq_true rfl) ?_
  refine PW.iconst (pc := 0) dX1_rulesOut_0 ?_
  refine PW.istore_n (pc := 1) dX1_rulesOut_1 (by decide) ?_
  exact loop F.1 0 (by omega) (by omega) (fun k' q0 q1 => by omega)
end CLOSE
