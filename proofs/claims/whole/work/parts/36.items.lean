section ITEMS
variable {sc : PSc} {Γ : List PTy} {R : PRm}
/-- the constants' rows -/
def Base (I : PIm) (h : Nat) : Prop := ∀ i, 0 ≤ i → i < 4 → TabE I h tc i
set_option maxRecDepth 100000 in
set_option maxHeartbeats 1000000 in
theorem Base.tab {I : PIm} {h : Nat} (B : Base I h) : Tab I h 4 tc := ⟨by omega, B, fun i j i0 i1 j0 j1 e => tc_inj i0 j0 e⟩
set_option maxRecDepth 100000 in
set_option maxHeartbeats 1000000 in
theorem Tab.base {I : PIm} {h : Nat} {z : Int} {tb : Int → Tm} (T : Tab I h z tb) : Base I h := by
  intro i i0 i1
  have h4 := T.1
  have r := T.row i0 (by omega)
  have e := (r.1 i1).2.1
  unfold TabE at r ⊢
  rw [e] at r
  exact ⟨r.1, fun q => by omega, r.2.2⟩
set_option maxRecDepth 100000 in
set_option maxHeartbeats 1000000 in
theorem Base.congr {I I' : PIm} {h : Nat} (B : Base I h) (he : ∀ q, h + 1 ≤ q → q ≤ h + 5 → ∀ k, I' q k = I q k) : Base I' h := by
  intro i i0 i1
  have r := B i i0 i1
  unfold TabE at r ⊢
  rw [he (h + 1) (by omega) (by omega), he (h + 2) (by omega) (by omega), he (h + 3) (by omega) (by omega), he (h + 4) (by omega) (by omega), he (h + 5) (by omega) (by omega)]
  exact r
/-- a text read so far -/
def PInv (I : PIm) (t : Nat) (σ : PS) (tb : Int → Tm) (p : Int) : Prop := FactsIs I t σ.1 tb (I (t + 1) 5) ∧ ProgOK I (t + 7) σ.2.1 σ.2.2 ∧ Tab I (t + 1) (I (t + 1) 5) tb ∧ (∀ u, UT tb (I (t + 1) 5) u ↔ UF σ.1 u) ∧ I (t + 1) 5 ≤ 4 + p
def IPp (Γ : List PTy) (R : PRm) (I0 : PIm) (r t : Nat) (res : Option PS × Int) : PPost := fun v Γ' I' R' => Γ' = Γ ∧ R' = R ∧ I' r 2 = res.2 ∧ (∀ q z, ¬ (t ≤ q ∧ q ≤ t + 11) → ¬ (q = r ∧ z = 2) → I' q z = I0 q z) ∧ (match res.1 with
  | some σ' => v = some (.inl 1) ∧ ∃ tb', PInv I' t σ' tb' res.2
  | none => v = some (.inl 0) ∧ Base I' (t + 1))
set_option maxRecDepth 100000 in
set_option maxHeartbeats 1000000 in
theorem FactsIs.grow {I I' : PIm} {t : Nat} {F : FS} {tb tb' : Int → Tm} {z z' : Int} (h : FactsIs I t F tb z) (he : ∀ q, q = t ∨ (t + 9 ≤ q ∧ q ≤ t + 11) → ∀ k, I' q k = I q k) (hz : z ≤ z') (ht : ∀ j, j < z → tb' j = tb j) : FactsIs I' t F tb' z' := h.congr he hz (fun j _ h1 => ht j h1)
set_option maxRecDepth 100000 in
set_option maxHeartbeats 1000000 in
theorem UT.grow {I0 I : PIm} {h : Nat} {tb0 tb : Int → Tm} {S : Tm → Prop} (G : GrowS I0 I h tb0 tb S) (u : Tm) : UT tb (I h 5) u ↔ UT tb0 (I0 h 5) u ∨ S u := by
  obtain ⟨g1, g2, g3, g4, g5, g6⟩ := G
  constructor
  · rintro ⟨i, i0, i1, e⟩
    rcases g4 i i0 i1 with q | q
    · exact Or.inl ⟨i, i0, q, by rw [← g3 i q]; exact e⟩
    · exact Or.inr (by rw [← e]; exact q)
  · rintro (⟨i, i0, i1, e⟩ | q)
    · exact ⟨i, i0, by omega, by rw [g3 i i1]; exact e⟩
    · exact g5 u q
set_option maxRecDepth 100000 in
set_option maxHeartbeats 1000000 in
theorem UF_push {F : FS} {e : Int} {a b u : Tm} : UF (fpush F e a b) u ↔ (UF F u ∨ sub u a) ∨ sub u b := by
  unfold UF fpush
  dsimp only
  constructor
  · rintro (h | ⟨k, k0, k1, h⟩)
    · exact Or.inl (Or.inl (Or.inl h))
    · by_cases q : k = (F.1 : Int)
      · rw [if_pos q, if_pos q] at h
        exact h.elim (fun w => Or.inl (Or.inr w)) Or.inr
      · rw [if_neg q, if_neg q] at h
        exact Or.inl (Or.inl (Or.inr ⟨k, k0, by omega, h⟩))
  · rintro (((h | ⟨k, k0, k1, h⟩) | h) | h)
    · exact Or.inl h
    · refine Or.inr ⟨k, k0, by omega, ?_⟩
      rw [if_neg (by omega), if_neg (by omega)]
      exact h
    · refine Or.inr ⟨(F.1 : Int), by omega, by omega, ?_⟩
      rw [if_pos rfl, if_pos rfl]
      exact Or.inl h
    · refine Or.inr ⟨(F.1 : Int), by omega, by omega, ?_⟩
      rw [if_pos rfl, if_pos rfl]
      exact Or.inr h
set_option maxRecDepth 100000 in
set_option maxHeartbeats 1000000 in
theorem c_X6_readFact (d : Nat) {I : PIm} {r t : Nat} {n p e : Int} {σ : PS} {tb : Int → Tm} (A : ReadAt Γ R r) (T : ToldAt Γ R t) (hn : I r 1 = n) (hp : I r 2 = p) (hx : TxOK (I (r + 1)) n) (h0 : 0 ≤ p) (h1 : p < n) (he : e = 0 ∨ e = 1) (PI : PInv I t σ tb p) (hdj : r + 1 < t) :
    PC sc mX6_readFact (d + 8) 0 0 [.inr (some r), .inr (some t), .inl e] Γ I R (IPp Γ R I r t (if 6 ≤ σ.1.1 then (none, p) else pFact (I (r + 1)) n σ e (p + 1))) := by
  have a0 := A.1
  obtain ⟨t0, t1, t2, t3, t4, t5, t6, t7, t8, t9, t10⟩ := id T
  obtain ⟨PF, PP, PTb, PU, PZ⟩ := id PI
  obtain ⟨F1, F2, F3⟩ := id PF
  have hn100 := hx.1
  refine PC.ofPW (by decide) (Nat.le_of_ble_eq_true rfl) ?_
  by_cases h6 : 6 ≤ σ.1.1
  · rw [if_pos h6]
    refine PW.aload_n (pc := 0) dX6_readFact_0 rfl ?_
    refine PW.geti (pc := 1) dX6_readFact_1 fl_X6_52 (by decide) (by first | assumption | rfl) ?_
    rw [F1]
    refine PW.bipush (pc := 4) dX6_readFact_4 (by decide) ?_
    refine PW.icmp_lt (pc := 6) (tgt := 11) dX6_readFact_6 (by decide) (by first | omega | exact rg_of _) (by first | omega | exact rg_of _) (fun c_6 => ?_) (fun c_6 => ?_)
    · omega
    · refine PW.iconst (pc := 9) dX6_readFact_9 ?_
      exact PW.zreturn (pc := 10) dX6_readFact_10 rfl (by first | exact Or.inl rfl | exact Or.inr rfl | omega) (⟨rfl, rfl, hp, fun _ _ _ _ => rfl, rfl, PTb.base⟩)
  · rw [if_neg h6]
    have z1 : ∀ q z, ¬ (q = r ∧ z = 2) → pw_up I r 2 (p + 1) q z = I q z := fun q z hq => pw_up_other hq
    have etx : pw_up I r 2 (p + 1) (r + 1) = I (r + 1) := funext fun z => z1 _ _ (by omega)
    have e15 : pw_up I r 2 (p + 1) (t + 1) 5 = I (t + 1) 5 := z1 _ _ (by omega)
    have C1 := c_X6_readTerm (sc := sc) 4 (d) (I := pw_up I r 2 (p + 1)) (n := n) (p := p + 1) (tb := tb) A t9 (by rw [z1 _ _ (by omega)]; exact hn) (pw_up_self _ _ _ _) (by rw [etx]; exact hx) (by omega) (by omega) (by omega) (by rw [e15]; exact PTb.congr (fun q a b k => z1 _ _ (by omega))) (by rw [e15]; omega) (by omega)
    rw [etx] at C1
    have rr1 := pT_rg (tx := I (r + 1)) (n := n) 4 (p + 1) (by omega)
    unfold pFact
    rcases hr1 : pT (I (r + 1)) n 4 (p + 1) with ⟨_ | ta, p1⟩
    · dsimp only
      rw [hr1] at C1 rr1
      refine PW.aload_n (pc := 0) dX6_readFact_0 rfl ?_
      refine PW.geti (pc := 1) dX6_readFact_1 fl_X6_52 (by decide) (by first | assumption | rfl) ?_
      rw [F1]
      refine PW.bipush (pc := 4) dX6_readFact_4 (by decide) ?_
      refine PW.icmp_lt (pc := 6) (tgt := 11) dX6_readFact_6 (by decide) (by first | omega | exact rg_of _) (by first | omega | exact rg_of _) (fun c_6 => ?_) (fun c_6 => ?_)
      · refine PW.aload_n (pc := 11) dX6_readFact_11 rfl ?_
        refine PW.dup (pc := 12) dX6_readFact_12 ?_
        refine PW.geti (pc := 13) dX6_readFact_13 fl_X6_24 (by decide) (by first | assumption | rfl) ?_
        rw [hp]
        refine PW.iconst (pc := 16) dX6_readFact_16 ?_
        refine PW.iadd (pc := 17) dX6_readFact_17 ?_
        refine PW.puti (pc := 18) dX6_readFact_18 fl_X6_24 (by first | assumption | rfl) ?_
        refine PW.aload_n (pc := 21) dX6_readFact_21 rfl ?_
        refine PW.aload_n (pc := 22) dX6_readFact_22 rfl ?_
        refine PW.getr (pc := 23) dX6_readFact_23 fl_X6_35 (by first | assumption | rfl) (by first | assumption | rfl) ?_
        refine PW.iconst (pc := 26) dX6_readFact_26 ?_
        refine PW.invV0 (pc := 27) dX6_readFact_27 mv_X6_55 (C1) (by first | assumption | rfl) rfl rfl (Nat.le_of_ble_eq_true rfl) ?_
        (rintro v Γ' I' R' ⟨rfl, rfl, k1, k2, tb', S, k3, k4, rfl⟩)
        refine PW.istore_n (pc := 30) dX6_readFact_30 (by decide) ?_
        refine PW.iload_n (pc := 31) dX6_readFact_31 rfl ?_
        refine PW.iconst (pc := 32) dX6_readFact_32 ?_
        refine PW.icmp_ne (pc := 33) (tgt := 38) dX6_readFact_33 (by decide) (by first | omega | exact rg_of _) (by first | omega | exact rg_of _) (fun c_33 => ?_) (fun c_33 => ?_)
        · exact absurd rfl c_33
        · refine PW.iconst (pc := 36) dX6_readFact_36 ?_
          exact PW.zreturn (pc := 37) dX6_readFact_37 rfl (by first | exact Or.inl rfl | exact Or.inr rfl | omega) (⟨rfl, rfl, k1, fun q z g1 g2 => by rw [k2 q z (by omega) g2, z1 q z g2], rfl, k3.1.base⟩)
      · omega
    · dsimp only
      rw [hr1] at C1 rr1
      dsimp only at rr1
      have rr1' := rr1.2 rfl
      have C2 : ∀ I' : PIm, I' r 2 = p1 → (∀ q z, ¬ (t + 1 ≤ q ∧ q ≤ t + 1 + 5) → ¬ (q = r ∧ z = 2) → I' q z = pw_up I r 2 (p + 1) q z) → ∀ tb', Tab I' (t + 1) (I' (t + 1) 5) tb' → I' (t + 1) 5 ≤ 4 + p1 → PC sc mX6_readTerm (d + 4 + 3) 0 0 [.inr (some r), .inr (some (t + 1)), .inl 0] Γ I' R (RTp Γ R I' r (t + 1) tb' p1 (pT (I (r + 1)) n 4 p1)) := by
        intro I' k1 k2 tb' k3 k4
        have ex : I' (r + 1) = I (r + 1) := funext fun z => by rw [k2 (r + 1) z (by omega) (by omega), z1 _ _ (by omega)]
        have := c_X6_readTerm (sc := sc) (Γ := Γ) (R := R) 4 d (I := I') (n := n) (p := p1) (tb := tb') A t9 (by rw [k2 r 1 (by omega) (by omega), z1 _ _ (by omega)]; exact hn) k1 (by rw [ex]; exact hx) (by omega) (by omega) (by omega) k3 k4 (by omega)
        rw [ex] at this
        exact this
      have rr2 := pT_rg (tx := I (r + 1)) (n := n) 4 p1 (by omega)
      rcases hr2 : pT (I (r + 1)) n 4 p1 with ⟨_ | tb2, p2⟩
      · dsimp only
        rw [hr2] at C2
        refine PW.aload_n (pc := 0) dX6_readFact_0 rfl ?_
        refine PW.geti (pc := 1) dX6_readFact_1 fl_X6_52 (by decide) (by first | assumption | rfl) ?_
        rw [F1]
        refine PW.bipush (pc := 4) dX6_readFact_4 (by decide) ?_
        refine PW.icmp_lt (pc := 6) (tgt := 11) dX6_readFact_6 (by decide) (by first | omega | exact rg_of _) (by first | omega | exact rg_of _) (fun c_6 => ?_) (fun c_6 => ?_)
        · refine PW.aload_n (pc := 11) dX6_readFact_11 rfl ?_
          refine PW.dup (pc := 12) dX6_readFact_12 ?_
          refine PW.geti (pc := 13) dX6_readFact_13 fl_X6_24 (by decide) (by first | assumption | rfl) ?_
          rw [hp]
          refine PW.iconst (pc := 16) dX6_readFact_16 ?_
          refine PW.iadd (pc := 17) dX6_readFact_17 ?_
          refine PW.puti (pc := 18) dX6_readFact_18 fl_X6_24 (by first | assumption | rfl) ?_
          refine PW.aload_n (pc := 21) dX6_readFact_21 rfl ?_
          refine PW.aload_n (pc := 22) dX6_readFact_22 rfl ?_
          refine PW.getr (pc := 23) dX6_readFact_23 fl_X6_35 (by first | assumption | rfl) (by first | assumption | rfl) ?_
          refine PW.iconst (pc := 26) dX6_readFact_26 ?_
          refine PW.invV0 (pc := 27) dX6_readFact_27 mv_X6_55 (C1) (by first | assumption | rfl) rfl rfl (Nat.le_of_ble_eq_true rfl) ?_
          (rintro v Γ' I' R' ⟨rfl, rfl, k1, k2, tb', S, k3, k4, ⟨i, rfl, i0, i1, i2⟩, k5⟩; rw [e15] at k4; dsimp only at k1 k4)
          refine PW.istore_n (pc := 30) dX6_readFact_30 (by decide) ?_
          refine PW.iload_n (pc := 31) dX6_readFact_31 rfl ?_
          refine PW.iconst (pc := 32) dX6_readFact_32 ?_
          refine PW.icmp_ne (pc := 33) (tgt := 38) dX6_readFact_33 (by decide) (by first | omega | exact rg_of _) (by first | omega | exact rg_of _) (fun c_33 => ?_) (fun c_33 => ?_)
          · refine PW.aload_n (pc := 38) dX6_readFact_38 rfl ?_
            refine PW.aload_n (pc := 39) dX6_readFact_39 rfl ?_
            refine PW.getr (pc := 40) dX6_readFact_40 fl_X6_35 (by first | assumption | rfl) (by first | assumption | rfl) ?_
            refine PW.iconst (pc := 43) dX6_readFact_43 ?_
            refine PW.invV0 (pc := 44) dX6_readFact_44 mv_X6_55 (C2 I' k1 k2 tb' k3.1 (by omega)) (by first | assumption | rfl) rfl rfl (Nat.le_of_ble_eq_true rfl) ?_
            (rintro v Γ' I2 R' ⟨rfl, rfl, l1, l2, tb'', S2, l3, l4, rfl⟩)
            refine PW.istore (pc := 47) dX6_readFact_47 (by decide) ?_
            refine PW.iload (pc := 49) dX6_readFact_49 rfl ?_
            refine PW.iconst (pc := 51) dX6_readFact_51 ?_
            refine PW.icmp_eq (pc := 52) (tgt := 64) dX6_readFact_52 (by decide) (by first | omega | exact rg_of _) (by first | omega | exact rg_of _) (fun c_52 => ?_) (fun c_52 => ?_)
            · refine PW.iconst (pc := 64) dX6_readFact_64 ?_
              exact PW.zreturn (pc := 65) dX6_readFact_65 rfl (by first | exact Or.inl rfl | exact Or.inr rfl | omega) (⟨rfl, rfl, l1, fun q z g1 g2 => by rw [l2 q z (by omega) g2, k2 q z (by omega) g2, z1 q z g2], rfl, l3.1.base⟩)
            · exact absurd rfl c_52
          · omega
        · omega
      · dsimp only
        rw [hr2] at C2 rr2
        dsimp only at rr2
        have rr2' := rr2.2 rfl
        have C3 : ∀ I' : PIm, I' r 2 = p2 → (∀ q z, ¬ (t + 1 ≤ q ∧ q ≤ t + 1 + 5) → ¬ (q = r ∧ z = 2) → I' q z = pw_up I r 2 (p + 1) q z) → PC sc mX6_accept (d + 7) 0 0 [.inr (some r), .inl 59] Γ I' R (px (some (.inl (bi (tok (I (r + 1)) n p2 = 59)))) Γ (pw_up I' r 2 (if tok (I (r + 1)) n p2 = 59 then skp (I (r + 1)) n p2 + 1 else skp (I (r + 1)) n p2)) R) := by
          intro I' k1 k2
          have ex : I' (r + 1) = I (r + 1) := funext fun z => by rw [k2 (r + 1) z (by omega) (by omega), z1 _ _ (by omega)]
          have := c_X6_accept (sc := sc) (Γ := Γ) (R := R) (d + 6) (I := I') (n := n) (p := p2) (c := 59) A (by rw [k2 r 1 (by omega) (by omega), z1 _ _ (by omega)]; exact hn) k1 (by rw [ex]; exact hx) (by omega) (by omega) (by omega)
          rw [ex] at this
          exact this
        by_cases hs : tok (I (r + 1)) n p2 = 59
        · rw [if_pos hs]
          rw [bi_pos hs, if_pos hs] at C3
          have hsk := skp_ge (I (r + 1)) (n := n) (p := p2) (by omega)
          refine PW.aload_n (pc := 0) dX6_readFact_0 rfl ?_
          refine PW.geti (pc := 1) dX6_readFact_1 fl_X6_52 (by decide) (by first | assumption | rfl) ?_
          rw [F1]
          refine PW.bipush (pc := 4) dX6_readFact_4 (by decide) ?_
          refine PW.icmp_lt (pc := 6) (tgt := 11) dX6_readFact_6 (by decide) (by first | omega | exact rg_of _) (by first | omega | exact rg_of _) (fun c_6 => ?_) (fun c_6 => ?_)
          · refine PW.aload_n (pc := 11) dX6_readFact_11 rfl ?_
            refine PW.dup (pc := 12) dX6_readFact_12 ?_
            refine PW.geti (pc := 13) dX6_readFact_13 fl_X6_24 (by decide) (by first | assumption | rfl) ?_
            rw [hp]
            refine PW.iconst (pc := 16) dX6_readFact_16 ?_
            refine PW.iadd (pc := 17) dX6_readFact_17 ?_
            refine PW.puti (pc := 18) dX6_readFact_18 fl_X6_24 (by first | assumption | rfl) ?_
            refine PW.aload_n (pc := 21) dX6_readFact_21 rfl ?_
            refine PW.aload_n (pc := 22) dX6_readFact_22 rfl ?_
            refine PW.getr (pc := 23) dX6_readFact_23 fl_X6_35 (by first | assumption | rfl) (by first | assumption | rfl) ?_
            refine PW.iconst (pc := 26) dX6_readFact_26 ?_
            refine PW.invV0 (pc := 27) dX6_readFact_27 mv_X6_55 (C1) (by first | assumption | rfl) rfl rfl (Nat.le_of_ble_eq_true rfl) ?_
            (rintro v Γ' I' R' ⟨rfl, rfl, k1, k2, tb', S, k3, k4, ⟨i, rfl, i0, i1, i2⟩, k5⟩; rw [e15] at k4; dsimp only at k1 k4)
            refine PW.istore_n (pc := 30) dX6_readFact_30 (by decide) ?_
            refine PW.iload_n (pc := 31) dX6_readFact_31 rfl ?_
            refine PW.iconst (pc := 32) dX6_readFact_32 ?_
            refine PW.icmp_ne (pc := 33) (tgt := 38) dX6_readFact_33 (by decide) (by first | omega | exact rg_of _) (by first | omega | exact rg_of _) (fun c_33 => ?_) (fun c_33 => ?_)
            · refine PW.aload_n (pc := 38) dX6_readFact_38 rfl ?_
              refine PW.aload_n (pc := 39) dX6_readFact_39 rfl ?_
              refine PW.getr (pc := 40) dX6_readFact_40 fl_X6_35 (by first | assumption | rfl) (by first | assumption | rfl) ?_
              refine PW.iconst (pc := 43) dX6_readFact_43 ?_
              refine PW.invV0 (pc := 44) dX6_readFact_44 mv_X6_55 (C2 I' k1 k2 tb' k3.1 (by omega)) (by first | assumption | rfl) rfl rfl (Nat.le_of_ble_eq_true rfl) ?_
              (rintro v Γ' I2 R' ⟨rfl, rfl, l1, l2, tb'', S2, l3, l4, ⟨j, rfl, j0, j1, j2⟩, l5⟩; dsimp only at l1 l4)
              refine PW.istore (pc := 47) dX6_readFact_47 (by decide) ?_
              refine PW.iload (pc := 49) dX6_readFact_49 rfl ?_
              refine PW.iconst (pc := 51) dX6_readFact_51 ?_
              refine PW.icmp_eq (pc := 52) (tgt := 64) dX6_readFact_52 (by decide) (by first | omega | exact rg_of _) (by first | omega | exact rg_of _) (fun c_52 => ?_) (fun c_52 => ?_)
              · omega
              · refine PW.aload_n (pc := 55) dX6_readFact_55 rfl ?_
                refine PW.bipush (pc := 56) dX6_readFact_56 (by decide) ?_
                refine PW.invV0x (pc := 58) dX6_readFact_58 mv_X6_59 (C3 I2 l1 (fun q z g1 g2 => by rw [l2 q z g1 g2, k2 q z g1 g2])) (by first | assumption | rfl) rfl rfl (Nat.le_of_ble_eq_true rfl) ?_
                refine PW.if_ne (pc := 61) (tgt := 66) dX6_readFact_61 (by decide) (by first | omega | exact rg_of _) (fun c_61 => ?_) (fun c_61 => ?_)
                · refine PW.aload_n (pc := 66) dX6_readFact_66 rfl ?_
                  refine PW.iload_n (pc := 67) dX6_readFact_67 rfl ?_
                  refine PW.iload_n (pc := 68) dX6_readFact_68 rfl ?_
                  refine PW.iload (pc := 69) dX6_readFact_69 rfl ?_
                  have y5 : pw_up I2 r 2 (skp (I (r + 1)) n p2 + 1) t 5 = σ.1.1 := by rw [pw_up_other (by omega), l2 t 5 (by omega) (by omega), k2 t 5 (by omega) (by omega), z1 _ _ (by omega)]; exact F1
                  refine PW.invV0x (pc := 71) dX6_readFact_71 mv_X6_63 (c_X9_addFact _ T (by rw [y5]; omega) he) (by first | assumption | rfl) rfl rfl (Nat.le_of_ble_eq_true rfl) ?_
                  refine PW.iconst (pc := 74) dX6_readFact_74 ?_
                  exact PW.zreturn (pc := 75) dX6_readFact_75 rfl (by first | exact Or.inl rfl | exact Or.inr rfl | omega) (by
                  rw [y5]
                  generalize hI3 : pw_up I2 r 2 (skp (I (r + 1)) n p2 + 1) = I3 at *
                  have w3 : ∀ q z, ¬ (t + 1 ≤ q ∧ q ≤ t + 1 + 5) → ¬ (q = r ∧ z = 2) → I3 q z = I q z := fun q z g1 g2 => by rw [← hI3, pw_up_other g2, l2 q z g1 g2, k2 q z g1 g2, z1 q z g2]
                  have v3 : ∀ q z, (t + 1 ≤ q ∧ q ≤ t + 1 + 5) → I3 q z = I2 q z := fun q z g1 => by rw [← hI3, pw_up_other (by omega)]
                  generalize hI4 : pw_up (pw_up (pw_up (pw_up I3 (t + 11) (σ.1.1 : Int) e) (t + 9) (σ.1.1 : Int) i) (t + 10) (σ.1.1 : Int) j) t 5 ((σ.1.1 : Int) + 1) = I4
                  have w4 : ∀ q z, q ≠ t → q ≠ t + 9 → q ≠ t + 10 → q ≠ t + 11 → I4 q z = I3 q z := fun q z g1 g2 g3 g4 => by rw [← hI4, pw_up_other (by omega), pw_up_other (by omega), pw_up_other (by omega), pw_up_other (by omega)]
                  have x9 : ∀ z, I4 (t + 9) z = if z = (σ.1.1 : Int) then i else I (t + 9) z := fun z => by
                    rw [← hI4, pw_up_other (by omega), pw_up_other (by omega)]
                    by_cases q : z = (σ.1.1 : Int)
                    · rw [if_pos q, q, pw_up_self]
                    · rw [if_neg q, pw_up_other (by omega), pw_up_other (by omega), w3 _ _ (by omega) (by omega)]
                  have x10 : ∀ z, I4 (t + 10) z = if z = (σ.1.1 : Int) then j else I (t + 10) z := fun z => by
                    rw [← hI4, pw_up_other (by omega)]
                    by_cases q : z = (σ.1.1 : Int)
                    · rw [if_pos q, q, pw_up_self]
                    · rw [if_neg q, pw_up_other (by omega), pw_up_other (by omega), pw_up_other (by omega), w3 _ _ (by omega) (by omega)]
                  have x11 : ∀ z, I4 (t + 11) z = if z = (σ.1.1 : Int) then e else I (t + 11) z := fun z => by
                    rw [← hI4, pw_up_other (by omega), pw_up_other (by omega), pw_up_other (by omega)]
                    by_cases q : z = (σ.1.1 : Int)
                    · rw [if_pos q, q, pw_up_self]
                    · rw [if_neg q, pw_up_other (by omega), w3 _ _ (by omega) (by omega)]
                  have y4 : I4 t 5 = (σ.1.1 : Int) + 1 := by rw [← hI4, pw_up_self]
                  have z4 : ∀ q z, (t + 1 ≤ q ∧ q ≤ t + 1 + 5) → I4 q z = I2 q z := fun q z g1 => by rw [w4 q z (by omega) (by omega) (by omega) (by omega), v3 q z g1]
                  have G := k3.trans l3 (S := fun u => sub u ta ∨ sub u tb2) (fun u => by rw [k5, l5])
                  have g3 := G.2.2.1
                  have e45 : I4 (t + 1) 5 = I2 (t + 1) 5 := z4 _ _ (by omega)
                  have hmo := l3.2.1
                  have hmo2 := k3.2.1
                  rw [e15] at hmo2 g3
                  refine ⟨rfl, rfl, ?_, fun q z g1 g2 => ?_, rfl, tb'', ⟨y4, by show σ.1.1 + 1 ≤ 6; omega, fun k q0 q1 => ?_⟩, ⟨?_, PP.2.1, fun k q0 q1 => ?_⟩, ?_, fun u => ?_, ?_⟩
                  · rw [w4 r 2 (by omega) (by omega) (by omega) (by omega), ← hI3, pw_up_self]
                  · rw [w4 q z (by omega) (by omega) (by omega) (by omega), w3 q z (by omega) g2]
                  · rw [x9, x10, x11, e45]
                    show ((if k = (σ.1.1 : Int) then e else I (t + 11) k) = (if k = (σ.1.1 : Int) then e else σ.1.2.1 k) ∧ _) ∧ _
                    unfold fpush
                    dsimp only
                    by_cases q : k = (σ.1.1 : Int)
                    · rw [if_pos q, if_pos q, if_pos q, if_pos q, if_pos q, if_pos q]
                      exact ⟨⟨rfl, he⟩, ⟨i0, by omega, by rw [l3.2.2.1 i i1]; exact i2⟩, j0, j1, j2⟩
                    · rw [if_neg q, if_neg q, if_neg q, if_neg q, if_neg q, if_neg q]
                      have q1' : k < (σ.1.1 : Int) + 1 := by simpa [fpush] using q1
                      obtain ⟨c1, ⟨c2, c3, c4⟩, c5, c6, c7⟩ := F3 k q0 (by omega)
                      exact ⟨c1, ⟨c2, by omega, by rw [g3 _ c3]; exact c4⟩, c5, by omega, by rw [g3 _ c6]; exact c7⟩
                  · rw [w4 _ _ (by omega) (by omega) (by omega) (by omega), w3 _ _ (by omega) (by omega)]; exact PP.1
                  · rw [w4 _ _ (by omega) (by omega) (by omega) (by omega), w3 _ _ (by omega) (by omega)]; exact PP.2.2 k q0 q1
                  · rw [e45]; exact l3.1.congr (fun q a b k => z4 q k (by omega))
                  · rw [e45, UT.grow G u, e15, PU u, UF_push, or_assoc]
                  · rw [e45]; dsimp only; omega)
                · omega
            · omega
          · omega
        · rw [if_neg hs]
          rw [bi_neg hs, if_neg hs] at C3
          refine PW.aload_n (pc := 0) dX6_readFact_0 rfl ?_
          refine PW.geti (pc := 1) dX6_readFact_1 fl_X6_52 (by decide) (by first | assumption | rfl) ?_
          rw [F1]
          refine PW.bipush (pc := 4) dX6_readFact_4 (by decide) ?_
          refine PW.icmp_lt (pc := 6) (tgt := 11) dX6_readFact_6 (by decide) (by first | omega | exact rg_of _) (by first | omega | exact rg_of _) (fun c_6 => ?_) (fun c_6 => ?_)
          · refine PW.aload_n (pc := 11) dX6_readFact_11 rfl ?_
            refine PW.dup (pc := 12) dX6_readFact_12 ?_
            refine PW.geti (pc := 13) dX6_readFact_13 fl_X6_24 (by decide) (by first | assumption | rfl) ?_
            rw [hp]
            refine PW.iconst (pc := 16) dX6_readFact_16 ?_
            refine PW.iadd (pc := 17) dX6_readFact_17 ?_
            refine PW.puti (pc := 18) dX6_readFact_18 fl_X6_24 (by first | assumption | rfl) ?_
            refine PW.aload_n (pc := 21) dX6_readFact_21 rfl ?_
            refine PW.aload_n (pc := 22) dX6_readFact_22 rfl ?_
            refine PW.getr (pc := 23) dX6_readFact_23 fl_X6_35 (by first | assumption | rfl) (by first | assumption | rfl) ?_
            refine PW.iconst (pc := 26) dX6_readFact_26 ?_
            refine PW.invV0 (pc := 27) dX6_readFact_27 mv_X6_55 (C1) (by first | assumption | rfl) rfl rfl (Nat.le_of_ble_eq_true rfl) ?_
            (rintro v Γ' I' R' ⟨rfl, rfl, k1, k2, tb', S, k3, k4, ⟨i, rfl, i0, i1, i2⟩, k5⟩; rw [e15] at k4; dsimp only at k1 k4)
            refine PW.istore_n (pc := 30) dX6_readFact_30 (by decide) ?_
            refine PW.iload_n (pc := 31) dX6_readFact_31 rfl ?_
            refine PW.iconst (pc := 32) dX6_readFact_32 ?_
            refine PW.icmp_ne (pc := 33) (tgt := 38) dX6_readFact_33 (by decide) (by first | omega | exact rg_of _) (by first | omega | exact rg_of _) (fun c_33 => ?_) (fun c_33 => ?_)
            · refine PW.aload_n (pc := 38) dX6_readFact_38 rfl ?_
              refine PW.aload_n (pc := 39) dX6_readFact_39 rfl ?_
              refine PW.getr (pc := 40) dX6_readFact_40 fl_X6_35 (by first | assumption | rfl) (by first | assumption | rfl) ?_
              refine PW.iconst (pc := 43) dX6_readFact_43 ?_
              refine PW.invV0 (pc := 44) dX6_readFact_44 mv_X6_55 (C2 I' k1 k2 tb' k3.1 (by omega)) (by first | assumption | rfl) rfl rfl (Nat.le_of_ble_eq_true rfl) ?_
              (rintro v Γ' I2 R' ⟨rfl, rfl, l1, l2, tb'', S2, l3, l4, ⟨j, rfl, j0, j1, j2⟩, l5⟩; dsimp only at l1 l4)
              refine PW.istore (pc := 47) dX6_readFact_47 (by decide) ?_
              refine PW.iload (pc := 49) dX6_readFact_49 rfl ?_
              refine PW.iconst (pc := 51) dX6_readFact_51 ?_
              refine PW.icmp_eq (pc := 52) (tgt := 64) dX6_readFact_52 (by decide) (by first | omega | exact rg_of _) (by first | omega | exact rg_of _) (fun c_52 => ?_) (fun c_52 => ?_)
              · omega
              · refine PW.aload_n (pc := 55) dX6_readFact_55 rfl ?_
                refine PW.bipush (pc := 56) dX6_readFact_56 (by decide) ?_
                refine PW.invV0x (pc := 58) dX6_readFact_58 mv_X6_59 (C3 I2 l1 (fun q z g1 g2 => by rw [l2 q z g1 g2, k2 q z g1 g2])) (by first | assumption | rfl) rfl rfl (Nat.le_of_ble_eq_true rfl) ?_
                refine PW.if_ne (pc := 61) (tgt := 66) dX6_readFact_61 (by decide) (by first | omega | exact rg_of _) (fun c_61 => ?_) (fun c_61 => ?_)
                · omega
                · refine PW.iconst (pc := 64) dX6_readFact_64 ?_
                  exact PW.zreturn (pc := 65) dX6_readFact_65 rfl (by first | exact Or.inl rfl | exact Or.inr rfl | omega) (⟨rfl, rfl, pw_up_self _ _ _ _, fun q z g1 g2 => by rw [pw_up_other g2, l2 q z (by omega) g2, k2 q z (by omega) g2, z1 q z g2], rfl, l3.1.base.congr (fun q a b k => pw_up_other (by omega))⟩)
            · omega
          · omega
end ITEMS
