section CLOSE
variable {sc : PSc} {Γ : List PTy} {R : PRm}
noncomputable def cb (p : Prop) : Int := @ite Int p (Classical.propDecidable p) 1 0
set_option maxRecDepth 100000 in
set_option maxHeartbeats 1000000 in
theorem cb_pos {p : Prop} (h : p) : cb p = 1 := by unfold cb; exact if_pos h
set_option maxRecDepth 100000 in
set_option maxHeartbeats 1000000 in
theorem cb_neg {p : Prop} (h : ¬ p) : cb p = 0 := by unfold cb; exact if_neg h
set_option maxRecDepth 100000 in
set_option maxHeartbeats 1000000 in
theorem cb_01 (p : Prop) : cb p = 0 ∨ cb p = 1 := by
  by_cases h : p
  · exact Or.inr (cb_pos h)
  · exact Or.inl (cb_neg h)
set_option maxRecDepth 100000 in
set_option maxHeartbeats 1000000 in
theorem cb0 {p : Prop} (h : cb p = 0) : ¬ p := fun q => by rw [cb_pos q] at h; exact absurd h (by decide)
set_option maxRecDepth 100000 in
set_option maxHeartbeats 1000000 in
theorem cb1 {p : Prop} (h : ¬ cb p = 0) : p := Classical.byContradiction fun q => h (cb_neg q)
set_option maxRecDepth 100000 in
set_option maxHeartbeats 1000000 in
theorem rg_cb (p : Prop) : Rg (cb p) := by rcases cb_01 p with h | h <;> rw [h] <;> decide
set_option maxRecDepth 100000 in
set_option maxHeartbeats 1000000 in
theorem cb_congr {p q : Prop} (h : p ↔ q) : cb p = cb q := by rw [propext h]
set_option maxRecDepth 100000 in
set_option maxHeartbeats 1000000 in
theorem pxc_pos {I : PIm} {p : Prop} (h : p) : px (some (.inl (cb p))) Γ I R (some (.inl 1)) Γ I R := by rw [cb_pos h]; exact px_rfl
set_option maxRecDepth 100000 in
set_option maxHeartbeats 1000000 in
theorem pxc_neg {I : PIm} {p : Prop} (h : ¬ p) : px (some (.inl (cb p))) Γ I R (some (.inl 0)) Γ I R := by rw [cb_neg h]; exact px_rfl
/-- facts: how many, EQUAL (1) or not (0), their two terms -/
abbrev FS : Type := Nat × (Int → Int) × (Int → Tm) × (Int → Tm)
def inb (fs k : Int) : Prop := pw_and (pw_shr fs k) 1 = 1
def EQ (F : FS) (fs : Int) (a b : Tm) : Prop := ∃ k : Int, 0 ≤ k ∧ k < F.1 ∧ inb fs k ∧ F.2.1 k = 1 ∧ a = F.2.2.1 k ∧ b = F.2.2.2 k
/-- all is RULED OUT -/
def ROut (U : Tm → Prop) (F : FS) (fs : Int) (E : Tm → Tm → Prop) : Prop := ∃ k : Int, 0 ≤ k ∧ k < F.1 ∧ inb fs k ∧ F.2.1 k = 0 ∧ Cl U E (F.2.2.1 k) (F.2.2.2 k)
def FactsIs (I : PIm) (t : Nat) (F : FS) (tb : Int → Tm) (z : Int) : Prop := I t 5 = F.1 ∧ F.1 ≤ 6 ∧ ∀ k : Int, 0 ≤ k → k < F.1 → (I (t + 11) k = F.2.1 k ∧ (F.2.1 k = 0 ∨ F.2.1 k = 1)) ∧ (0 ≤ I (t + 9) k ∧ I (t + 9) k < z ∧ tb (I (t + 9) k) = F.2.2.1 k) ∧ (0 ≤ I (t + 10) k ∧ I (t + 10) k < z ∧ tb (I (t + 10) k) = F.2.2.2 k)
set_option maxRecDepth 100000 in
set_option maxHeartbeats 1000000 in
theorem FactsIs.congr {I I' : PIm} {t : Nat} {F : FS} {tb tb' : Int → Tm} {z z' : Int} (h : FactsIs I t F tb z) (he : ∀ q, q = t ∨ (t + 9 ≤ q ∧ q ≤ t + 11) → ∀ k, I' q k = I q k) (hz : z ≤ z') (ht : ∀ j, 0 ≤ j → j < z → tb' j = tb j) : FactsIs I' t F tb' z' := by
  obtain ⟨a, b, c⟩ := h
  refine ⟨by rw [he t (by omega)]; exact a, b, fun k k0 k1 => ?_⟩
  obtain ⟨c1, ⟨c2, c3, c4⟩, c5, c6, c7⟩ := c k k0 k1
  rw [he (t + 11) (by omega), he (t + 9) (by omega), he (t + 10) (by omega)]
  exact ⟨c1, ⟨c2, by omega, by rw [ht _ c2 c3]; exact c4⟩, c5, by omega, by rw [ht _ c5 c6]; exact c7⟩
def KC (rt : Int → Int) (z : Int) (tb : Int → Tm) (E : Tm → Tm → Prop) : Prop := RtOK rt z ∧ ∀ i j, 0 ≤ i → i < z → 0 ≤ j → j < z → (rt i = rt j ↔ Cl (UT tb z) E (tb i) (tb j))
set_option maxRecDepth 100000 in
set_option maxHeartbeats 1000000 in
theorem KC.congr {rt rt' : Int → Int} {z : Int} {tb : Int → Tm} {E : Tm → Tm → Prop} (h : KC rt z tb E) (he : ∀ i, 0 ≤ i → i < z → rt' i = rt i) : KC rt' z tb E := ⟨h.1.congr he, fun i j i0 i1 j0 j1 => by rw [he i i0 i1, he j j0 j1]; exact h.2 i j i0 i1 j0 j1⟩
set_option maxRecDepth 100000 in
set_option maxHeartbeats 1000000 in
theorem KC.add {rt rt' : Int → Int} {z a b : Int} {tb : Int → Tm} {E : Tm → Tm → Prop} (h : KC rt z tb E) (T : PTab tb z) (hE : ∀ x y, E x y → UT tb z x ∧ UT tb z y) (a0 : 0 ≤ a) (a1 : a < z) (b0 : 0 ≤ b) (b1 : b < z) (P : Prog (mrg rt a b) rt' z tb) (hC : RtC rt' z tb) : KC rt' z tb (fun x y => E x y ∨ (x = tb a ∧ y = tb b)) := by
  have cc := Cl.cc (UT tb z) (fun x y => E x y ∨ (x = tb a ∧ y = tb b))
  have s0 : RtS rt z tb (Cl (UT tb z) (fun x y => E x y ∨ (x = tb a ∧ y = tb b))) := fun i j i0 i1 j0 j1 e => Cl.mono (fun _ _ q => Or.inl q) ((h.2 i j i0 i1 j0 j1).mp e)
  have s1 := P.2.2 _ cc (mrg_s cc s0 a0 a1 b0 b1 (Cl.of (Or.inr ⟨rfl, rfl⟩)))
  refine ⟨P.1, fun i j i0 i1 j0 j1 => ⟨s1 i j i0 i1 j0 j1, fun q => rt_complete T hC ?_ i0 i1 j0 j1 q⟩⟩
  rintro x y (e | ⟨e1, e2⟩)
  · obtain ⟨⟨l, l0, l1, el⟩, m, m0, m1, em⟩ := hE x y e
    refine ⟨l, m, l0, l1, m0, m1, el, em, P.2.1 l m l0 l1 m0 m1 (mrg_r rt z a b l m l0 l1 m0 m1 ((h.2 l m l0 l1 m0 m1).mpr ?_))⟩
    rw [el, em]
    exact Cl.of e
  · exact ⟨a, b, a0, a1, b0, b1, e1.symm, e2.symm, P.2.1 a b a0 a1 b0 b1 (mrg_eq rt a b)⟩
set_option maxRecDepth 100000 in
set_option maxHeartbeats 1000000 in
theorem ToldAt.congr {R' : PRm} {t : Nat} (T : ToldAt Γ R t) (h : ∀ q, t ≤ q → q ≤ t + 11 → R' q = R q) : ToldAt Γ R' t := by
  obtain ⟨a0, a1, a2, a3, a4, a5, a6, a7, a8, ⟨b0, b1, b2, b3, b4, b5, b6⟩, c0, c1, c2⟩ := T
  exact ⟨a0, by rw [h _ (by omega) (by omega)]; exact a1, by rw [h _ (by omega) (by omega)]; exact a2, by rw [h _ (by omega) (by omega)]; exact a3, by rw [h _ (by omega) (by omega)]; exact a4, by rw [h _ (by omega) (by omega)]; exact a5, a6, a7, a8, ⟨b0, by rw [h _ (by omega) (by omega)]; exact b1, by rw [h _ (by omega) (by omega)]; exact b2, by rw [h _ (by omega) (by omega)]; exact b3, by rw [h _ (by omega) (by omega)]; exact b4, by rw [h _ (by omega) (by omega)]; exact b5, b6⟩, c0, by rw [h _ (by omega) (by omega)]; exact c1, c2⟩
set_option maxRecDepth 100000 in
set_option maxHeartbeats 1000000 in
theorem c_X9_isAmong (d : Nat) {I : PIm} {t : Nat} {fs x e : Int} (T : ToldAt Γ R t) (hx : 0 ≤ x ∧ x < I t 5) (hf : 0 ≤ I t 5 ∧ I t 5 ≤ 6) (ha : I (t + 11) x = 0 ∨ I (t + 11) x = 1) (he : e = 0 ∨ e = 1) : PC sc mX9_isAmong (d + 1) 0 0 [.inr (some t), .inl fs, .inl x, .inl e] Γ I R (px (some (.inl (bi (pw_and (pw_shr fs x) 1 = 1 ∧ I (t + 11) x = e)))) Γ I R) := by
  obtain ⟨s0, s1, s2, s3, s4, s5, s6, s7, s8, s9, s10⟩ := id T
  refine PC.ofPW (by decide) (Nat.le_of_ble_eq_true rfl) ?_
  refine PW.aload_n (pc := 0) dX9_isAmong_0 rfl ?_
  refine PW.iload_n (pc := 1) dX9_isAmong_1 rfl ?_
  refine PW.invV0x (pc := 2) dX9_isAmong_2 mv_X9_46 (c_X9_has d T (by omega) hf) (by first | assumption | rfl) rfl rfl (Nat.le_of_ble_eq_true rfl) ?_
  refine PW.if_eq (pc := 5) (tgt := 31) dX9_isAmong_5 (by decide) (rg_bi _) (fun c_5 => ?_) (fun c_5 => ?_)
  · exact absurd hx (bi0 c_5)
  · refine PW.iload_n (pc := 8) dX9_isAmong_8 rfl ?_
    refine PW.iload_n (pc := 9) dX9_isAmong_9 rfl ?_
    refine PW.ishr (pc := 10) dX9_isAmong_10 ?_
    refine PW.iconst (pc := 11) dX9_isAmong_11 ?_
    refine PW.iand (pc := 12) dX9_isAmong_12 ?_
    refine PW.iconst (pc := 13) dX9_isAmong_13 ?_
    refine PW.icmp_ne (pc := 14) (tgt := 31) dX9_isAmong_14 (by decide) (by first | omega | exact rg_of _) (by first | omega | exact rg_of _) (fun c_14 => ?_) (fun c_14 => ?_)
    · refine PW.iconst (pc := 31) dX9_isAmong_31 ?_
      exact PW.zreturn (pc := 32) dX9_isAmong_32 rfl (by first | exact Or.inl rfl | exact Or.inr rfl | omega) (by first | exact pxb_pos ⟨c_14, c_24⟩ | exact pxb_neg (fun q => c_14 q.1) | exact pxb_neg (fun q => c_24 q.2))
    · refine PW.aload_n (pc := 17) dX9_isAmong_17 rfl ?_
      refine PW.getr (pc := 18) dX9_isAmong_18 fl_X9_34 (by first | assumption | rfl) (by first | assumption | rfl) ?_
      refine PW.iload_n (pc := 21) dX9_isAmong_21 rfl ?_
      refine PW.zald (pc := 22) dX9_isAmong_22 (by first | assumption | rfl) (by omega) (by omega) (by omega) ?_
      refine PW.iload_n (pc := 23) dX9_isAmong_23 rfl ?_
      refine PW.icmp_ne (pc := 24) (tgt := 31) dX9_isAmong_24 (by decide) (by first | omega | exact rg_of _) (by first | omega | exact rg_of _) (fun c_24 => ?_) (fun c_24 => ?_)
      · refine PW.iconst (pc := 31) dX9_isAmong_31 ?_
        exact PW.zreturn (pc := 32) dX9_isAmong_32 rfl (by first | exact Or.inl rfl | exact Or.inr rfl | omega) (by first | exact pxb_pos ⟨c_14, c_24⟩ | exact pxb_neg (fun q => c_14 q.1) | exact pxb_neg (fun q => c_24 q.2))
      · refine PW.iconst (pc := 27) dX9_isAmong_27 ?_
        refine PW.goto (pc := 28) (tgt := 32) dX9_isAmong_28 (by decide) ?_
        exact PW.zreturn (pc := 32) dX9_isAmong_32 rfl (by first | exact Or.inl rfl | exact Or.inr rfl | omega) (by first | exact pxb_pos ⟨c_14, c_24⟩ | exact pxb_neg (fun q => c_14 q.1) | exact pxb_neg (fun q => c_24 q.2))
set_option maxRecDepth 100000 in
set_option maxHeartbeats 1000000 in
theorem c_X1_closeBy (d : Nat) {I0 : PIm} {c t zn : Nat} {tb : Int → Tm} {F : FS} {fs : Int} (K : ClosAt Γ R c) (T : ToldAt Γ R t) (hz : I0 (t + 1) 5 = zn) (TB : Tab I0 (t + 1) zn tb) (hz2 : zn ≤ 116) (hF : FactsIs I0 t F tb zn) (hdj : c + 3 < t ∨ t + 11 < c) :
    PC sc mX1_closeBy (d + 5) 0 0 [.inr (some c), .inr (some t), .inl fs] Γ I0 R (fun v Γ' I' R' => v = none ∧ Γ' = Γ ∧ R' = R ∧ (∀ q z, ¬ (c ≤ q ∧ q ≤ c + 3) → I' q z = I0 q z) ∧ I' c 3 = zn ∧ KC (I' (c + 1)) zn tb (EQ F fs)) := by
  have t1 := T.2.1
  have k0 := K.1
  obtain ⟨hF1, hF2, hF3⟩ := id hF
  have h4 := TB.1
  obtain ⟨j0, j1, j2, j3, j4, j5, j6⟩ := id K
  obtain ⟨s0, s1, s2, s3, s4, s5, s6, s7, s8, s9, s10⟩ := id T
  have s9' := s9.1
  have cc := Cl.cc (UT tb zn) (EQ F fs)
  have fin : ∀ (I : PIm), (∀ q z, ¬ (c ≤ q ∧ q ≤ c + 3) → I q z = I0 q z) → I c 3 = zn → RtOK (I (c + 1)) zn → RtS (I (c + 1)) zn tb (Cl (UT tb zn) (EQ F fs)) → (∀ k : Int, 0 ≤ k → k < F.1 → inb fs k → F.2.1 k = 1 → I (c + 1) (I0 (t + 9) k) = I (c + 1) (I0 (t + 10) k)) → ∀ o : Option PV, PW sc mX1_closeBy (d + 5) 0 0 (fun v Γ' I' R' => v = none ∧ Γ' = Γ ∧ R' = R ∧ (∀ q z, ¬ (c ≤ q ∧ q ≤ c + 3) → I' q z = I0 q z) ∧ I' c 3 = zn ∧ KC (I' (c + 1)) zn tb (EQ F fs)) 85 [some (.inr (some c)), some (.inr (some t)), some (.inl fs), o] [] Γ I R := by
    intro I fr ez hr hs he o
    have TBI : Tab I (t + 1) zn tb := TB.congr (fun q a b k => fr q k (by omega))
    refine PW.aload_n (pc := 85) dX1_closeBy_85 rfl ?_
    refine PW.aload_n (pc := 86) dX1_closeBy_86 rfl ?_
    refine PW.getr (pc := 87) dX1_closeBy_87 fl_X1_21 (by first | assumption | rfl) (by first | assumption | rfl) ?_
    refine PW.invV0 (pc := 90) dX1_closeBy_90 mv_X1_58 (c_X1_spread _ K (by rw [fr _ _ (by omega)]; exact hz) s9 ez TBI (by omega) hz2 hr (by omega)) (by first | assumption | rfl) rfl rfl (Nat.le_of_ble_eq_true rfl) ?_
    (rintro v Γ' I' R' ⟨rfl, rfl, rfl, m1, m2, m3⟩)
    exact PW.vreturn (pc := 93) dX1_closeBy_93 rfl (⟨rfl, rfl, rfl, fun q z hq => by rw [m1 q z (by omega), fr q z hq], by rw [m1 c 3 (by omega)]; exact ez, m2.1, fun i j i0 i1 j0 j1 => ⟨(m2.2.2 _ cc hs) i j i0 i1 j0 j1, fun q => rt_complete TB.ptab m3 (fun x y e => by obtain ⟨k, k0, k1, k2, k3, rfl, rfl⟩ := e; obtain ⟨-, ⟨c2, c3, c4⟩, c5, c6, c7⟩ := hF3 k k0 k1; exact ⟨_, _, c2, c3, c5, c6, c4, c7, m2.2.1 _ _ c2 c3 c5 c6 (he k k0 k1 k2 k3)⟩) i0 i1 j0 j1 q⟩⟩)
  have loop2 : ∀ (N k : Nat) (I : PIm), F.1 - k = N → k ≤ F.1 → (∀ q z, ¬ (c ≤ q ∧ q ≤ c + 3) → I q z = I0 q z) → I c 3 = zn → RtOK (I (c + 1)) zn → RtS (I (c + 1)) zn tb (Cl (UT tb zn) (EQ F fs)) → (∀ k' : Int, 0 ≤ k' → k' < k → inb fs k' → F.2.1 k' = 1 → I (c + 1) (I0 (t + 9) k') = I (c + 1) (I0 (t + 10) k')) → PW sc mX1_closeBy (d + 5) 0 0 (fun v Γ' I' R' => v = none ∧ Γ' = Γ ∧ R' = R ∧ (∀ q z, ¬ (c ≤ q ∧ q ≤ c + 3) → I' q z = I0 q z) ∧ I' c 3 = zn ∧ KC (I' (c + 1)) zn tb (EQ F fs)) 47 [some (.inr (some c)), some (.inr (some t)), some (.inl fs), some (.inl (k : Int))] [] Γ I R := by
    intro N
    induction N using Nat.strongRecOn with
    | _ N ih =>
      intro k I hN hk fr ez hr hs he
      have e5 : I t 5 = F.1 := by rw [fr t 5 (by omega)]; exact hF1
      by_cases hlt : k < F.1
      · obtain ⟨⟨c0, c1⟩, ⟨c2, c3, c4⟩, c5, c6, c7⟩ := hF3 (k : Int) (by omega) (by omega)
        have ea : I (t + 11) (k : Int) = F.2.1 (k : Int) := by rw [fr _ _ (by omega)]; exact c0
        have e9 : I (t + 9) (k : Int) = I0 (t + 9) (k : Int) := fr _ _ (by omega)
        have e10 : I (t + 10) (k : Int) = I0 (t + 10) (k : Int) := fr _ _ (by omega)
        have skip : ¬ (inb fs (k : Int) ∧ F.2.1 (k : Int) = 1) → PW sc mX1_closeBy (d + 5) 0 0 (fun v Γ' I' R' => v = none ∧ Γ' = Γ ∧ R' = R ∧ (∀ q z, ¬ (c ≤ q ∧ q ≤ c + 3) → I' q z = I0 q z) ∧ I' c 3 = zn ∧ KC (I' (c + 1)) zn tb (EQ F fs)) 79 [some (.inr (some c)), some (.inr (some t)), some (.inl fs), some (.inl (k : Int))] [] Γ I R := by
          intro hno
          refine PW.iinc (pc := 79) dX1_closeBy_79 rfl (by decide) ?_
          refine PW.goto (pc := 82) (tgt := 47) dX1_closeBy_82 (by decide) ?_
          exact ih (F.1 - (k + 1)) (by omega) (k + 1) I rfl (by omega) fr ez hr hs (fun k' q0 q1 q2 q3 => by by_cases q : k' = (k : Int); (· rw [q] at q2 q3; exact absurd ⟨q2, q3⟩ hno); (· exact he k' q0 (by omega) q2 q3))
        refine PW.iload_n (pc := 47) dX1_closeBy_47 rfl ?_
        refine PW.aload_n (pc := 48) dX1_closeBy_48 rfl ?_
        refine PW.geti (pc := 49) dX1_closeBy_49 fl_X1_40 (by decide) (by first | assumption | rfl) ?_
        rw [e5]
        refine PW.icmp_ge (pc := 52) (tgt := 85) dX1_closeBy_52 (by decide) (by first | omega | exact rg_of _) (by first | omega | exact rg_of _) (fun c_52 => ?_) (fun c_52 => ?_)
        · omega
        · refine PW.aload_n (pc := 55) dX1_closeBy_55 rfl ?_
          refine PW.iload_n (pc := 56) dX1_closeBy_56 rfl ?_
          refine PW.iload_n (pc := 57) dX1_closeBy_57 rfl ?_
          refine PW.iconst (pc := 58) dX1_closeBy_58 ?_
          refine PW.invV0x (pc := 59) dX1_closeBy_59 mv_X1_43 (c_X9_isAmong _ T (by omega) (by omega) (by rw [ea]; exact c1) (Or.inr rfl)) (by first | assumption | rfl) rfl rfl (Nat.le_of_ble_eq_true rfl) ?_
          refine PW.if_eq (pc := 62) (tgt := 79) dX1_closeBy_62 (by decide) (rg_bi _) (fun c_62 => ?_) (fun c_62 => ?_)
          · exact skip (fun q => bi0 c_62 ⟨q.1, by rw [ea]; exact q.2⟩)
          · refine PW.aload_n (pc := 65) dX1_closeBy_65 rfl ?_
            refine PW.aload_n (pc := 66) dX1_closeBy_66 rfl ?_
            refine PW.iload_n (pc := 67) dX1_closeBy_67 rfl ?_
            refine PW.invV0x (pc := 68) dX1_closeBy_68 mv_X1_47 (c_X9_firstOf _ T (by omega) (by omega)) (by first | assumption | rfl) rfl rfl (Nat.le_of_ble_eq_true rfl) ?_
            refine PW.aload_n (pc := 71) dX1_closeBy_71 rfl ?_
            refine PW.iload_n (pc := 72) dX1_closeBy_72 rfl ?_
            refine PW.invV0x (pc := 73) dX1_closeBy_73 mv_X1_51 (c_X9_secondOf _ T (by omega) (by omega)) (by first | assumption | rfl) rfl rfl (Nat.le_of_ble_eq_true rfl) ?_
            rw [e9, e10]
            refine PW.invV0 (pc := 76) dX1_closeBy_76 mv_X1_54 (c_X1_merge _ K (by omega) (by rw [ez]; exact hr) (by omega) (by omega)) (by first | assumption | rfl) rfl rfl (Nat.le_of_ble_eq_true rfl) ?_
            (rintro v Γ' I' R' ⟨rfl, rfl, rfl, m1, m2⟩; rw [ez] at m2)
            obtain ⟨b1, b2⟩ := bi1 c_62
            rw [ea] at b2
            refine PW.iinc (pc := 79) dX1_closeBy_79 rfl (by decide) ?_
            refine PW.goto (pc := 82) (tgt := 47) dX1_closeBy_82 (by decide) ?_
            have hcl : Cl (UT tb zn) (EQ F fs) (tb (I0 (t + 9) (k : Int))) (tb (I0 (t + 10) (k : Int))) := Cl.of ⟨k, by omega, by omega, b1, b2, c4, c7⟩
            exact ih (F.1 - (k + 1)) (by omega) (k + 1) I' rfl (by omega) (fun q z hq => by rw [m1 q z (by omega), fr q z hq]) (by rw [m1 c 3 (by omega)]; exact ez) ((mrg_ok hr c2 c3 c5 c6).congr m2) ((mrg_s cc hs c2 c3 c5 c6 hcl).congr m2) (fun k' q0 q1 q2 q3 => by
              by_cases q : k' = (k : Int)
              · rw [q, m2 _ c2 c3, m2 _ c5 c6]
                exact mrg_eq _ _ _
              · obtain ⟨-, ⟨g2, g3, g4⟩, g5, g6, g7⟩ := hF3 k' q0 (by omega)
                rw [m2 _ g2 g3, m2 _ g5 g6]
                exact mrg_r _ zn _ _ _ _ g2 g3 g5 g6 (he k' q0 (by omega) q2 q3))
      · obtain rfl : k = F.1 := by omega
        refine PW.iload_n (pc := 47) dX1_closeBy_47 rfl ?_
        refine PW.aload_n (pc := 48) dX1_closeBy_48 rfl ?_
        refine PW.geti (pc := 49) dX1_closeBy_49 fl_X1_40 (by decide) (by first | assumption | rfl) ?_
        rw [e5]
        refine PW.icmp_ge (pc := 52) (tgt := 85) dX1_closeBy_52 (by decide) (by first | omega | exact rg_of _) (by first | omega | exact rg_of _) (fun c_52 => ?_) (fun c_52 => ?_)
        · exact fin I fr ez hr hs he _
        · omega
  have loop1 : ∀ (N k : Nat) (I : PIm), zn - k = N → k ≤ zn → (∀ q z, ¬ (c ≤ q ∧ q ≤ c + 3) → I q z = I0 q z) → I c 3 = zn → (∀ i : Int, 0 ≤ i → i < k → I (c + 1) i = i) → PW sc mX1_closeBy (d + 5) 0 0 (fun v Γ' I' R' => v = none ∧ Γ' = Γ ∧ R' = R ∧ (∀ q z, ¬ (c ≤ q ∧ q ≤ c + 3) → I' q z = I0 q z) ∧ I' c 3 = zn ∧ KC (I' (c + 1)) zn tb (EQ F fs)) 18 [some (.inr (some c)), some (.inr (some t)), some (.inl fs), some (.inl (k : Int))] [] Γ I R := by
    intro N
    induction N using Nat.strongRecOn with
    | _ N ih =>
      intro k I hN hk fr ez hid
      by_cases hlt : k < zn
      · refine PW.iload_n (pc := 18) dX1_closeBy_18 rfl ?_
        refine PW.aload_n (pc := 19) dX1_closeBy_19 rfl ?_
        refine PW.geti (pc := 20) dX1_closeBy_20 fl_X1_39 (by decide) (by first | assumption | rfl) ?_
        rw [ez]
        refine PW.icmp_ge (pc := 23) (tgt := 45) dX1_closeBy_23 (by decide) (by first | omega | exact rg_of _) (by first | omega | exact rg_of _) (fun c_23 => ?_) (fun c_23 => ?_)
        · omega
        · refine PW.iload_n (pc := 26) dX1_closeBy_26 rfl ?_
          refine PW.bipush (pc := 27) dX1_closeBy_27 (by decide) ?_
          refine PW.icmp_ge (pc := 29) (tgt := 45) dX1_closeBy_29 (by decide) (by first | omega | exact rg_of _) (by first | omega | exact rg_of _) (fun c_29 => ?_) (fun c_29 => ?_)
          · omega
          · refine PW.aload_n (pc := 32) dX1_closeBy_32 rfl ?_
            refine PW.getr (pc := 33) dX1_closeBy_33 fl_X1_9 (by first | assumption | rfl) (by first | assumption | rfl) ?_
            refine PW.iload_n (pc := 36) dX1_closeBy_36 rfl ?_
            refine PW.iload_n (pc := 37) dX1_closeBy_37 rfl ?_
            refine PW.iast (pc := 38) dX1_closeBy_38 (by first | assumption | rfl) (by omega) (by omega) (by omega) ?_
            refine PW.iinc (pc := 39) dX1_closeBy_39 rfl (by decide) ?_
            refine PW.goto (pc := 42) (tgt := 18) dX1_closeBy_42 (by decide) ?_
            exact ih (zn - (k + 1)) (by omega) (k + 1) _ rfl (by omega) (fun q z hq => by rw [pw_up_other (by omega), fr q z hq]) (by rw [pw_up_other (by omega)]; exact ez) (fun i i0 i1 => by by_cases q : i = (k : Int); (· rw [q, pw_up_self]); (· rw [pw_up_other (by omega), hid i i0 (by omega)]))
      · obtain rfl : k = zn := by omega
        refine PW.iload_n (pc := 18) dX1_closeBy_18 rfl ?_
        refine PW.aload_n (pc := 19) dX1_closeBy_19 rfl ?_
        refine PW.geti (pc := 20) dX1_closeBy_20 fl_X1_39 (by decide) (by first | assumption | rfl) ?_
        rw [ez]
        refine PW.icmp_ge (pc := 23) (tgt := 45) dX1_closeBy_23 (by decide) (by first | omega | exact rg_of _) (by first | omega | exact rg_of _) (fun c_23 => ?_) (fun c_23 => ?_)
        · refine PW.iconst (pc := 45) dX1_closeBy_45 ?_
          refine PW.istore_n (pc := 46) dX1_closeBy_46 (by decide) ?_
          exact loop2 F.1 0 I (by omega) (by omega) fr ez (fun i i0 i1 => by rw [hid i i0 i1, hid i i0 i1]; exact ⟨i0, i1, rfl⟩) (fun i j i0 i1 j0 j1 e => by rw [hid i i0 i1, hid j j0 j1] at e; rw [e]; exact cc.1 _) (fun k' q0 q1 => by omega)
        · omega
  have hm : min (I0 (t + 1) 5) 116 = zn := by rw [hz, Int.min_eq_left (by omega)]
  refine PC.ofPW (by decide) (Nat.le_of_ble_eq_true rfl) ?_
  refine PW.aload_n (pc := 0) dX1_closeBy_0 rfl ?_
  refine PW.aload_n (pc := 1) dX1_closeBy_1 rfl ?_
  refine PW.getr (pc := 2) dX1_closeBy_2 fl_X1_21 (by first | assumption | rfl) (by first | assumption | rfl) ?_
  refine PW.geti (pc := 5) dX1_closeBy_5 fl_X1_27 (by decide) (by first | assumption | rfl) ?_
  refine PW.bipush (pc := 8) dX1_closeBy_8 (by decide) ?_
  refine PW.mmin (pc := 10) dX1_closeBy_10 mm_X1_33 (by first | omega | exact rg_of _) (by first | omega | exact rg_of _) (Nat.le_of_ble_eq_true rfl) ?_
  rw [hm]
  refine PW.puti (pc := 13) dX1_closeBy_13 fl_X1_39 (by first | assumption | rfl) ?_
  refine PW.iconst (pc := 16) dX1_closeBy_16 ?_
  refine PW.istore_n (pc := 17) dX1_closeBy_17 (by decide) ?_
  exact loop1 zn 0 _ (by omega) (by omega) (fun q z hq => pw_up_other (by omega)) (pw_up_self _ _ _ _) (fun i i0 i1 => by omega)
set_option maxRecDepth 100000 in
set_option maxHeartbeats 1000000 in
theorem c_X1_assume (d : Nat) {I0 : PIm} {c t zn : Nat} {tb : Int → Tm} {E : Tm → Tm → Prop} {a b : Int} (K : ClosAt Γ R c) (T : ToldAt Γ R t) (hz : I0 c 3 = zn) (hT : I0 (t + 1) 5 = zn) (TB : Tab I0 (t + 1) zn tb) (hz2 : zn ≤ 116) (hk : KC (I0 (c + 1)) zn tb E) (hE : ∀ x y, E x y → UT tb zn x ∧ UT tb zn y) (hdj : c + 3 < t ∨ t + 11 < c) (ha : 0 ≤ a ∧ a < zn) (hb : 0 ≤ b ∧ b < zn) :
    PC sc mX1_assume (d + 5) 0 0 [.inr (some c), .inr (some t), .inl a, .inl b] Γ I0 R (fun v Γ' I' R' => v = none ∧ Γ' = Γ ∧ R' = R ∧ (∀ q z, ¬ (c + 1 ≤ q ∧ q ≤ c + 3) → I' q z = I0 q z) ∧ KC (I' (c + 1)) zn tb (fun x y => E x y ∨ (x = tb a ∧ y = tb b))) := by
  have k0 := K.1
  obtain ⟨s0, s1, s2, s3, s4, s5, s6, s7, s8, s9, s10⟩ := id T
  refine PC.ofPW (by decide) (Nat.le_of_ble_eq_true rfl) ?_
  refine PW.aload_n (pc := 0) dX1_assume_0 rfl ?_
  refine PW.iload_n (pc := 1) dX1_assume_1 rfl ?_
  refine PW.iload_n (pc := 2) dX1_assume_2 rfl ?_
  refine PW.invV0 (pc := 3) dX1_assume_3 mv_X1_54 (c_X1_merge _ K (by omega) (by rw [hz]; exact hk.1) (by omega) (by omega)) (by first | assumption | rfl) rfl rfl (Nat.le_of_ble_eq_true rfl) ?_
  (rintro v Γ' I' R' ⟨rfl, rfl, rfl, m1, m2⟩; rw [hz] at m2)
  refine PW.aload_n (pc := 6) dX1_assume_6 rfl ?_
  refine PW.aload_n (pc := 7) dX1_assume_7 rfl ?_
  refine PW.getr (pc := 8) dX1_assume_8 fl_X1_21 (by first | assumption | rfl) (by first | assumption | rfl) ?_
  refine PW.invV0 (pc := 11) dX1_assume_11 mv_X1_58 (c_X1_spread _ K (by rw [m1 _ _ (by omega)]; exact hT) s9 (by rw [m1 c 3 (by omega)]; exact hz) (TB.congr (fun q a b k => m1 q k (by omega))) (by omega) hz2 ((mrg_ok hk.1 ha.1 ha.2 hb.1 hb.2).congr m2) (by omega)) (by first | assumption | rfl) rfl rfl (Nat.le_of_ble_eq_true rfl) ?_
  (rintro v Γ' I'' R' ⟨rfl, rfl, rfl, n1, n2, n3⟩)
  exact PW.vreturn (pc := 14) dX1_assume_14 rfl (⟨rfl, rfl, rfl, fun q z hq => by rw [n1 q z hq, m1 q z (by omega)], hk.add TB.ptab hE ha.1 ha.2 hb.1 hb.2 ⟨n2.1, fun i j i0 i1 j0 j1 e => n2.2.1 i j i0 i1 j0 j1 (by rw [m2 i i0 i1, m2 j j0 j1]; exact e), fun C hC hs => n2.2.2 C hC (hs.congr m2)⟩ n3⟩)
set_option maxRecDepth 100000 in
set_option maxHeartbeats 1000000 in
theorem c_X1_rulesOut (d : Nat) {I : PIm} {c t zn : Nat} {tb : Int → Tm} {F : FS} {fs : Int} {E : Tm → Tm → Prop} (K : ClosAt Γ R c) (T : ToldAt Γ R t) (hz : I c 3 = zn) (hz2 : zn ≤ 116) (hF : FactsIs I t F tb zn) (hk : KC (I (c + 1)) zn tb E) : PC sc mX1_rulesOut (d + 2) 0 0 [.inr (some c), .inr (some t), .inl fs] Γ I R (px (some (.inl (cb (ROut (UT tb zn) F fs E)))) Γ I R) := by
  have k0 := K.1
  obtain ⟨s0, s1, s2, s3, s4, s5, s6, s7, s8, s9, s10⟩ := id T
  obtain ⟨hF1, hF2, hF3⟩ := id hF
  have loop : ∀ (N k : Nat), F.1 - k = N → k ≤ F.1 → (∀ k' : Int, 0 ≤ k' → k' < k → ¬ (inb fs k' ∧ F.2.1 k' = 0 ∧ Cl (UT tb zn) E (F.2.2.1 k') (F.2.2.2 k'))) → PW sc mX1_rulesOut (d + 2) 0 0 (px (some (.inl (cb (ROut (UT tb zn) F fs E)))) Γ I R) 2 [some (.inr (some c)), some (.inr (some t)), some (.inl fs), some (.inl (k : Int))] [] Γ I R := by
    intro N
    induction N using Nat.strongRecOn with
    | _ N ih =>
      intro k hN hk' hno
      by_cases hlt : k < F.1
      · obtain ⟨⟨c0, c1⟩, ⟨c2, c3, c4⟩, c5, c6, c7⟩ := hF3 (k : Int) (by omega) (by omega)
        have hiff := hk.2 _ _ c2 c3 c5 c6
        rw [c4, c7] at hiff
        have skip : ¬ (inb fs (k : Int) ∧ F.2.1 (k : Int) = 0 ∧ Cl (UT tb zn) E (F.2.2.1 k) (F.2.2.2 k)) → PW sc mX1_rulesOut (d + 2) 0 0 (px (some (.inl (cb (ROut (UT tb zn) F fs E)))) Γ I R) 39 [some (.inr (some c)), some (.inr (some t)), some (.inl fs), some (.inl (k : Int))] [] Γ I R := by
          intro hne
          refine PW.iinc (pc := 39) dX1_rulesOut_39 rfl (by decide) ?_
          refine PW.goto (pc := 42) (tgt := 2) dX1_rulesOut_42 (by decide) ?_
          exact ih (F.1 - (k + 1)) (by omega) (k + 1) rfl (by omega) (fun k' q0 q1 => by by_cases q : k' = (k : Int); (· rw [q]; exact hne); (· exact hno k' q0 (by omega)))
        refine PW.iload_n (pc := 2) dX1_rulesOut_2 rfl ?_
        refine PW.aload_n (pc := 3) dX1_rulesOut_3 rfl ?_
        refine PW.geti (pc := 4) dX1_rulesOut_4 fl_X1_40 (by decide) (by first | assumption | rfl) ?_
        rw [hF1]
        refine PW.icmp_ge (pc := 7) (tgt := 45) dX1_rulesOut_7 (by decide) (by first | omega | exact rg_of _) (by first | omega | exact rg_of _) (fun c_7 => ?_) (fun c_7 => ?_)
        · omega
        · refine PW.aload_n (pc := 10) dX1_rulesOut_10 rfl ?_
          refine PW.iload_n (pc := 11) dX1_rulesOut_11 rfl ?_
          refine PW.iload_n (pc := 12) dX1_rulesOut_12 rfl ?_
          refine PW.iconst (pc := 13) dX1_rulesOut_13 ?_
          refine PW.invV0x (pc := 14) dX1_rulesOut_14 mv_X1_43 (c_X9_isAmong _ T (by omega) (by omega) (by rw [c0]; exact c1) (Or.inl rfl)) (by first | assumption | rfl) rfl rfl (Nat.le_of_ble_eq_true rfl) ?_
          refine PW.if_eq (pc := 17) (tgt := 39) dX1_rulesOut_17 (by decide) (rg_bi _) (fun c_17 => ?_) (fun c_17 => ?_)
          · first | exact skip (fun q => bi0 c_17 ⟨q.1, by rw [c0]; exact q.2.1⟩) | exact skip (fun q => bi0 c_34 (hiff.mpr q.2.2))
          · refine PW.aload_n (pc := 20) dX1_rulesOut_20 rfl ?_
            refine PW.aload_n (pc := 21) dX1_rulesOut_21 rfl ?_
            refine PW.iload_n (pc := 22) dX1_rulesOut_22 rfl ?_
            refine PW.invV0x (pc := 23) dX1_rulesOut_23 mv_X1_47 (c_X9_firstOf _ T (by omega) (by omega)) (by first | assumption | rfl) rfl rfl (Nat.le_of_ble_eq_true rfl) ?_
            refine PW.aload_n (pc := 26) dX1_rulesOut_26 rfl ?_
            refine PW.iload_n (pc := 27) dX1_rulesOut_27 rfl ?_
            refine PW.invV0x (pc := 28) dX1_rulesOut_28 mv_X1_51 (c_X9_secondOf _ T (by omega) (by omega)) (by first | assumption | rfl) rfl rfl (Nat.le_of_ble_eq_true rfl) ?_
            refine PW.invV0x (pc := 31) dX1_rulesOut_31 mv_X1_65 (c_X1_same _ K (by omega) (fun i i0 i1 => by have := hk.1 i i0 (by omega); omega) (by omega) (by omega)) (by first | assumption | rfl) rfl rfl (Nat.le_of_ble_eq_true rfl) ?_
            refine PW.if_eq (pc := 34) (tgt := 39) dX1_rulesOut_34 (by decide) (rg_bi _) (fun c_34 => ?_) (fun c_34 => ?_)
            · first | exact skip (fun q => bi0 c_17 ⟨q.1, by rw [c0]; exact q.2.1⟩) | exact skip (fun q => bi0 c_34 (hiff.mpr q.2.2))
            · refine PW.iconst (pc := 37) dX1_rulesOut_37 ?_
              exact PW.zreturn (pc := 38) dX1_rulesOut_38 rfl (by first | exact Or.inl rfl | exact Or.inr rfl | omega) (pxc_pos ⟨k, by omega, by omega, (bi1 c_17).1, by rw [← c0]; exact (bi1 c_17).2, hiff.mp (bi1 c_34)⟩)
      · obtain rfl : k = F.1 := by omega
        refine PW.iload_n (pc := 2) dX1_rulesOut_2 rfl ?_
        refine PW.aload_n (pc := 3) dX1_rulesOut_3 rfl ?_
        refine PW.geti (pc := 4) dX1_rulesOut_4 fl_X1_40 (by decide) (by first | assumption | rfl) ?_
        rw [hF1]
        refine PW.icmp_ge (pc := 7) (tgt := 45) dX1_rulesOut_7 (by decide) (by first | omega | exact rg_of _) (by first | omega | exact rg_of _) (fun c_7 => ?_) (fun c_7 => ?_)
        · refine PW.iconst (pc := 45) dX1_rulesOut_45 ?_
          exact PW.zreturn (pc := 46) dX1_rulesOut_46 rfl (by first | exact Or.inl rfl | exact Or.inr rfl | omega) (pxc_neg (fun q => by obtain ⟨k', q0, q1, q2, q3, q4⟩ := q; exact hno k' q0 q1 ⟨q2, q3, q4⟩))
        · omega
  refine PC.ofPW (by decide) (Nat.le_of_ble_eq_true rfl) ?_
  refine PW.iconst (pc := 0) dX1_rulesOut_0 ?_
  refine PW.istore_n (pc := 1) dX1_rulesOut_1 (by decide) ?_
  exact loop F.1 0 (by omega) (by omega) (fun k' q0 q1 => by omega)
end CLOSE
