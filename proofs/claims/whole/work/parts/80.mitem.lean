section MITEM
variable {sc : PSc} {Γ : List PTy} {R : PRm}
/-! items without their ; -/
def semi (tx : Int → Int) (n : Int) (r : Option PS × Int) : Option PS × Int := match r with
  | (none, f) => (none, f)
  | (some σ, p) => if tok tx n p = 59 then (some σ, skp tx n p + 1) else (none, skp tx n p)
def pFact0 (tx : Int → Int) (n : Int) (σ : PS) (e p : Int) : Option PS × Int :=
  match pT tx n 4 p with
  | (none, f) => (none, f)
  | (some a, p1) => match pT tx n 4 p1 with
    | (none, f) => (none, f)
    | (some b, p2) => (some (fpush σ.1 e a b, σ.2), p2)
def pIns0 (tx : Int → Int) (n : Int) (σ : PS) (kind : Nat) (p : Int) : Option PS × Int :=
  match pF tx n (if kind = 0 then 0 else kind + 1) p 0 with
  | (none, f) => (none, f)
  | (some v, p1) => (some (σ.1, ppush σ.2.1 σ.2.2 (64 * (kind : Int) + v * (if kind = 1 then 4 else 1)), σ.2.2 + 1), p1)
def pItem0 (tx : Int → Int) (n : Int) (σ : PS) (p : Int) : Option PS × Int :=
  if tok tx n p = 61 ∨ tok tx n p = 33 then (if 6 ≤ σ.1.1 then (none, skp tx n p) else pFact0 tx n σ (if tok tx n p = 61 then 1 else 0) (skp tx n p + 1)) else
  if tok tx n p = 110 then (if 6 ≤ σ.2.2 then (none, skp tx n p) else pIns0 tx n σ 0 (skp tx n p + 1)) else
  if tok tx n p = 117 then (if 6 ≤ σ.2.2 then (none, skp tx n p) else pIns0 tx n σ 1 (skp tx n p + 1)) else
  if tok tx n p = 111 then (if 6 ≤ σ.2.2 then (none, skp tx n p) else pIns0 tx n σ 2 (skp tx n p + 1)) else (none, skp tx n p)
set_option maxRecDepth 100000 in
set_option maxHeartbeats 1000000 in
theorem pFact_semi (tx : Int → Int) (n : Int) (σ : PS) (e p : Int) : pFact tx n σ e p = semi tx n (pFact0 tx n σ e p) := by
  unfold pFact pFact0 semi
  rcases pT tx n 4 p with ⟨_ | a, p1⟩
  · rfl
  · dsimp only
    rcases pT tx n 4 p1 with ⟨_ | b, p2⟩
    · rfl
    · rfl
set_option maxRecDepth 100000 in
set_option maxHeartbeats 1000000 in
theorem pIns_semi (tx : Int → Int) (n : Int) (σ : PS) (k : Nat) (p : Int) : pIns tx n σ k p = semi tx n (pIns0 tx n σ k p) := by
  unfold pIns pIns0 semi
  rcases pF tx n (if k = 0 then 0 else k + 1) p 0 with ⟨_ | a, p1⟩
  · rfl
  · rfl
set_option maxRecDepth 100000 in
set_option maxHeartbeats 1000000 in
theorem pItem_semi (tx : Int → Int) (n : Int) (σ : PS) (p : Int) : pItem tx n σ p = semi tx n (pItem0 tx n σ p) := by
  unfold pItem pItem0
  split
  · split
    · rfl
    · exact pFact_semi _ _ _ _ _
  · split
    · split
      · rfl
      · exact pIns_semi _ _ _ _ _
    · split
      · split
        · rfl
        · exact pIns_semi _ _ _ _ _
      · split
        · split
          · rfl
          · exact pIns_semi _ _ _ _ _
        · rfl
/-- facts and instructions read so far -/
def MPF (I : PIm) (F : FS) (tb : Int → Tm) : Prop := I 112 25 = F.1 ∧ F.1 ≤ 6 ∧ ∀ k : Int, 0 ≤ k → k < F.1 → (I 128 k = 1 - F.2.1 k ∧ (F.2.1 k = 0 ∨ F.2.1 k = 1)) ∧ (0 ≤ I 129 k ∧ I 129 k < I 112 13 ∧ tb (I 129 k) = F.2.2.1 k) ∧ (0 ≤ I 130 k ∧ I 130 k < I 112 13 ∧ tb (I 130 k) = F.2.2.2 k)
def MPP (I : PIm) (P : Int → Int) (n : Nat) : Prop := I 112 29 = n ∧ n ≤ 6 ∧ ∀ k : Int, 0 ≤ k → k < n → okc (P k) ∧ I 131 (4 * k) = kd (P k) ∧ I 131 (4 * k + 1) = dd (P k) ∧ I 131 (4 * k + 2) = ss (P k) ∧ I 131 (4 * k + 3) = tt (P k)
def MPI (I : PIm) (σ : PS) (tb : Int → Tm) (p : Int) : Prop := MPF I σ.1 tb ∧ MPP I σ.2.1 σ.2.2 ∧ MTab I (I 112 13) tb ∧ (∀ u, UT tb (I 112 13) u ↔ UF σ.1 u) ∧ I 112 13 ≤ 4 + p
set_option maxRecDepth 100000 in
set_option maxHeartbeats 1000000 in
theorem MPP.cg {I I' : PIm} {P : Int → Int} {n : Nat} (h : MPP I P n) (e1 : I' 112 29 = I 112 29) (e2 : ∀ k : Int, 0 ≤ k → k < 4 * (n : Int) → I' 131 k = I 131 k) : MPP I' P n := by
  obtain ⟨a, b, c⟩ := h
  refine ⟨by rw [e1]; exact a, b, fun k k0 k1 => ?_⟩
  rw [e2 _ (by omega) (by omega), e2 _ (by omega) (by omega), e2 _ (by omega) (by omega), e2 _ (by omega) (by omega)]
  exact c k k0 k1
set_option maxRecDepth 100000 in
set_option maxHeartbeats 1000000 in
theorem MPI.cg {I I' : PIm} {σ : PS} {tb : Int → Tm} {p p' : Int} (h : MPI I σ tb p) (e : ∀ q z, (q = 112 ∧ (z = 13 ∨ z = 25 ∨ z = 29)) ∨ (122 ≤ q ∧ q ≤ 124) ∨ (128 ≤ q ∧ q ≤ 131) → I' q z = I q z) (hp : p ≤ p') : MPI I' σ tb p' := by
  obtain ⟨⟨a1, a2, a3⟩, b, c, d, f⟩ := h
  have e13 := e 112 13 (by omega)
  have e25 := e 112 25 (by omega)
  unfold MPI MPF
  rw [e13, e25]
  refine ⟨⟨a1, a2, fun k k0 k1 => ?_⟩, b.cg (e 112 29 (by omega)) (fun k _ _ => e 131 k (by omega)), c.cg (fun q g1 g2 k _ _ => e q k (by omega)), d, by omega⟩
  rw [e 128 k (by omega), e 129 k (by omega), e 130 k (by omega)]
  exact a3 k k0 k1
def MIp (Γ : List PTy) (R : PRm) (I0 : PIm) (res : Option PS × Int) : PPost := fun v Γ' I' R' => Γ' = Γ ∧ R' = R ∧ (∀ q z, ¬ ((q = 112 ∧ (z = 13 ∨ (22 ≤ z ∧ z ≤ 25) ∨ z = 29)) ∨ (122 ≤ q ∧ q ≤ 124) ∨ (128 ≤ q ∧ q ≤ 133)) → I' q z = I0 q z) ∧ (match res.1 with
  | some σ' => v = some (.inl 1) ∧ I' 112 22 = res.2 ∧ ∃ tb', MPI I' σ' tb' res.2
  | none => v = some (.inl 0) ∧ I' 112 23 = res.2)
set_option maxRecDepth 100000 in
set_option maxHeartbeats 1000000 in
theorem c_X11_readsFact (d : Nat) {I : PIm} {tb : Int → Tm} {tx : Int → Int} {n p e b : Int} {σ : PS} (M : MAt Γ R) (ht : I 127 = tx) (hn : I 112 20 = n) (hp : I 112 22 = p) (hb : I 112 23 = b) (hx : TxOK tx n) (h0 : 0 ≤ p) (h1 : p ≤ n) (he : e = 0 ∨ e = 1) (PI : MPI I σ tb p) : PC sc mX11_readsFact (d + 2) 0 0 [.inr (some 112), .inl (1 - e)] Γ I R (MIp Γ R I (if 6 ≤ σ.1.1 then (none, b) else pFact0 tx n σ e p)) := by
  obtain ⟨⟨F1, F2, F3⟩, PP, PT, PU, PZ⟩ := id PI
  have hn100 := hx.1
  refine PC.ofPW (by decide) (Nat.le_of_ble_eq_true rfl) ?_
  by_cases h6 : 6 ≤ σ.1.1
  · rw [if_pos h6]
    refine PW.aload_n (pc := 0) dX11_readsFact_0 rfl ?_
    refine PW.geti (pc := 1) dX11_readsFact_1 fl_X11_141 (by decide) M.g112 ?_
    rw [F1]
    refine PW.bipush (pc := 4) dX11_readsFact_4 (by decide) ?_
    refine PW.icmp_ne (pc := 6) (tgt := 11) dX11_readsFact_6 (by decide) (by first | omega | exact rg_of _) (by first | omega | exact rg_of _) (fun c_6 => ?_) (fun c_6 => ?_)
    · omega
    · refine PW.iconst (pc := 9) dX11_readsFact_9 ?_
      exact PW.zreturn (pc := 10) dX11_readsFact_10 rfl (by first | exact Or.inl rfl | exact Or.inr rfl | omega) (⟨rfl, rfl, fun _ _ _ => rfl, rfl, hb⟩)
  · rw [if_neg h6]
    have z1 : ∀ q z, ¬ (q = 128 ∧ z = (σ.1.1 : Int)) → pw_up I 128 (σ.1.1 : Int) (1 - e) q z = I q z := fun q z g => pw_up_other g
    have s1 : pw_up I 128 (σ.1.1 : Int) (1 - e) 128 (σ.1.1 : Int) = 1 - e := pw_up_self _ _ _ _
    generalize hI1 : pw_up I 128 (σ.1.1 : Int) (1 - e) = I1 at z1 s1
    have y25 : I1 112 25 = σ.1.1 := by rw [z1 _ _ (by omega)]; exact F1
    have y13 : I1 112 13 = I 112 13 := z1 _ _ (by omega)
    have etx : I1 127 = tx := by rw [← ht]; funext z; exact z1 _ _ (by omega)
    have T1 : MTab I1 (I1 112 13) tb := by rw [y13]; exact PT.cg (fun q a b k _ _ => z1 _ _ (by omega))
    have C1 := c_X11_readsTerm (sc := sc) (Γ := Γ) (R := R) d M etx (by rw [z1 _ _ (by omega)]; exact hn) (by rw [z1 _ _ (by omega)]; exact hp) hx h0 h1 T1 (by omega)
    have rr1 := pT_rg (tx := tx) (n := n) 4 p h1
    unfold pFact0
    rcases hr1 : pT tx n 4 p with ⟨_ | ta, p1⟩
    · dsimp only
      rw [hr1] at C1 rr1
      refine PW.aload_n (pc := 0) dX11_readsFact_0 rfl ?_
      refine PW.geti (pc := 1) dX11_readsFact_1 fl_X11_141 (by decide) M.g112 ?_
      rw [F1]
      refine PW.bipush (pc := 4) dX11_readsFact_4 (by decide) ?_
      refine PW.icmp_ne (pc := 6) (tgt := 11) dX11_readsFact_6 (by decide) (by first | omega | exact rg_of _) (by first | omega | exact rg_of _) (fun c_6 => ?_) (fun c_6 => ?_)
      · refine PW.aload_n (pc := 11) dX11_readsFact_11 rfl ?_
        refine PW.getr (pc := 12) dX11_readsFact_12 fl_X11_56 M.g112 M.r26 ?_
        refine PW.aload_n (pc := 15) dX11_readsFact_15 rfl ?_
        refine PW.geti (pc := 16) dX11_readsFact_16 fl_X11_141 (by decide) M.g112 ?_
        rw [F1]
        refine PW.iload_n (pc := 19) dX11_readsFact_19 rfl ?_
        refine PW.zast (pc := 20) dX11_readsFact_20 M.g128 (by omega) (by omega) (by omega) (by first | exact Or.inl rfl | exact Or.inr rfl | omega) ?_
        rw [hI1]
        refine PW.aload_n (pc := 21) dX11_readsFact_21 rfl ?_
        refine PW.getr (pc := 22) dX11_readsFact_22 fl_X11_59 M.g112 M.r27 ?_
        refine PW.aload_n (pc := 25) dX11_readsFact_25 rfl ?_
        refine PW.geti (pc := 26) dX11_readsFact_26 fl_X11_141 (by decide) M.g112 ?_
        rw [y25]
        refine PW.aload_n (pc := 29) dX11_readsFact_29 rfl ?_
        refine PW.invV0 (pc := 30) dX11_readsFact_30 mv_X11_144 (C1) M.g112 rfl rfl (Nat.le_of_ble_eq_true rfl) ?_
        (rintro v Γ' I2 R' ⟨rfl, rfl, f2, rfl, b2⟩)
        have w25 : pw_up I2 129 (σ.1.1 : Int) (-9) 112 25 = σ.1.1 := by rw [pw_up_other (by omega), f2 112 25 (by omega)]; exact y25
        refine PW.iast (pc := 33) dX11_readsFact_33 M.g129 (by omega) (by omega) (by omega) ?_
        refine PW.aload_n (pc := 34) dX11_readsFact_34 rfl ?_
        refine PW.getr (pc := 35) dX11_readsFact_35 fl_X11_59 M.g112 M.r27 ?_
        refine PW.aload_n (pc := 38) dX11_readsFact_38 rfl ?_
        refine PW.geti (pc := 39) dX11_readsFact_39 fl_X11_141 (by decide) M.g112 ?_
        rw [w25]
        refine PW.iald (pc := 42) dX11_readsFact_42 M.g129 (by omega) (by omega) (by omega) ?_
        rw [pw_up_self]
        refine PW.bipush (pc := 43) dX11_readsFact_43 (by decide) ?_
        refine PW.icmp_ne (pc := 45) (tgt := 50) dX11_readsFact_45 (by decide) (by first | omega | exact rg_of _) (by first | omega | exact rg_of _) (fun c_45 => ?_) (fun c_45 => ?_)
        · omega
        · refine PW.iconst (pc := 48) dX11_readsFact_48 ?_
          exact PW.zreturn (pc := 49) dX11_readsFact_49 rfl (by first | exact Or.inl rfl | exact Or.inr rfl | omega) (⟨rfl, rfl, fun q z g => by rw [pw_up_other (by omega), f2 q z (by omega), z1 q z (by omega)], rfl, by rw [pw_up_other (by omega)]; exact b2⟩)
      · omega
    · dsimp only
      rw [hr1] at C1 rr1
      dsimp only at rr1
      have rr1' := rr1.2 rfl
      have C2 : ∀ (I3 : PIm) (tb1 : Int → Tm), (∀ q z, ¬ ((q = 112 ∧ (z = 13 ∨ z = 22 ∨ z = 23 ∨ z = 24)) ∨ (122 ≤ q ∧ q ≤ 124) ∨ q = 129 ∨ q = 132 ∨ q = 133) → I3 q z = I1 q z) → I3 112 22 = p1 → MTab I3 (I3 112 13) tb1 → I3 112 13 ≤ 4 + p1 → PC sc mX11_readsTerm (d + 1) 0 0 [.inr (some 112)] Γ I3 R (MRTp Γ R I3 tb1 (pT tx n 4 p1)) := by
        intro I3 tb1 f3 n3 T3 z3
        exact c_X11_readsTerm (sc := sc) (Γ := Γ) (R := R) d M (by rw [← etx]; funext z; exact f3 _ _ (by omega)) (by rw [f3 _ _ (by omega), z1 _ _ (by omega)]; exact hn) n3 hx (by omega) (by omega) T3 z3
      have rr2 := pT_rg (tx := tx) (n := n) 4 p1 (by omega)
      rcases hr2 : pT tx n 4 p1 with ⟨_ | tb2, p2⟩
      · dsimp only
        rw [hr2] at C2 rr2
        refine PW.aload_n (pc := 0) dX11_readsFact_0 rfl ?_
        refine PW.geti (pc := 1) dX11_readsFact_1 fl_X11_141 (by decide) M.g112 ?_
        rw [F1]
        refine PW.bipush (pc := 4) dX11_readsFact_4 (by decide) ?_
        refine PW.icmp_ne (pc := 6) (tgt := 11) dX11_readsFact_6 (by decide) (by first | omega | exact rg_of _) (by first | omega | exact rg_of _) (fun c_6 => ?_) (fun c_6 => ?_)
        · refine PW.aload_n (pc := 11) dX11_readsFact_11 rfl ?_
          refine PW.getr (pc := 12) dX11_readsFact_12 fl_X11_56 M.g112 M.r26 ?_
          refine PW.aload_n (pc := 15) dX11_readsFact_15 rfl ?_
          refine PW.geti (pc := 16) dX11_readsFact_16 fl_X11_141 (by decide) M.g112 ?_
          rw [F1]
          refine PW.iload_n (pc := 19) dX11_readsFact_19 rfl ?_
          refine PW.zast (pc := 20) dX11_readsFact_20 M.g128 (by omega) (by omega) (by omega) (by first | exact Or.inl rfl | exact Or.inr rfl | omega) ?_
          rw [hI1]
          refine PW.aload_n (pc := 21) dX11_readsFact_21 rfl ?_
          refine PW.getr (pc := 22) dX11_readsFact_22 fl_X11_59 M.g112 M.r27 ?_
          refine PW.aload_n (pc := 25) dX11_readsFact_25 rfl ?_
          refine PW.geti (pc := 26) dX11_readsFact_26 fl_X11_141 (by decide) M.g112 ?_
          rw [y25]
          refine PW.aload_n (pc := 29) dX11_readsFact_29 rfl ?_
          refine PW.invV0 (pc := 30) dX11_readsFact_30 mv_X11_144 (C1) M.g112 rfl rfl (Nat.le_of_ble_eq_true rfl) ?_
          (rintro v Γ' I2 R' ⟨rfl, rfl, f2, i, tb1, rfl, ⟨i0, i1, i2⟩, n2, G2, z2⟩; dsimp only at n2 z2)
          have z3 : ∀ q z, ¬ (q = 129 ∧ z = (σ.1.1 : Int)) → pw_up I2 129 (σ.1.1 : Int) i q z = I2 q z := fun q z g => pw_up_other g
          have s3 : pw_up I2 129 (σ.1.1 : Int) i 129 (σ.1.1 : Int) = i := pw_up_self _ _ _ _
          generalize hI3 : pw_up I2 129 (σ.1.1 : Int) i = I3 at z3 s3
          have y25b : I3 112 25 = σ.1.1 := by rw [z3 _ _ (by omega), f2 _ _ (by omega)]; exact y25
          have D2 := C2 I3 tb1 (fun q z g => by rw [z3 q z (by omega), f2 q z (by omega)]) (by rw [z3 _ _ (by omega)]; exact n2) (by rw [z3 112 13 (by omega)]; exact G2.1.cg (fun q a b k _ _ => z3 q k (by omega))) (by rw [z3 112 13 (by omega)]; exact z2)
          refine PW.iast (pc := 33) dX11_readsFact_33 M.g129 (by omega) (by omega) (by omega) ?_
          rw [hI3]
          refine PW.aload_n (pc := 34) dX11_readsFact_34 rfl ?_
          refine PW.getr (pc := 35) dX11_readsFact_35 fl_X11_59 M.g112 M.r27 ?_
          refine PW.aload_n (pc := 38) dX11_readsFact_38 rfl ?_
          refine PW.geti (pc := 39) dX11_readsFact_39 fl_X11_141 (by decide) M.g112 ?_
          rw [y25b]
          refine PW.iald (pc := 42) dX11_readsFact_42 M.g129 (by omega) (by omega) (by omega) ?_
          rw [s3]
          refine PW.bipush (pc := 43) dX11_readsFact_43 (by decide) ?_
          refine PW.icmp_ne (pc := 45) (tgt := 50) dX11_readsFact_45 (by decide) (by first | omega | exact rg_of _) (by first | omega | exact rg_of _) (fun c_45 => ?_) (fun c_45 => ?_)
          · refine PW.aload_n (pc := 50) dX11_readsFact_50 rfl ?_
            refine PW.getr (pc := 51) dX11_readsFact_51 fl_X11_62 M.g112 M.r28 ?_
            refine PW.aload_n (pc := 54) dX11_readsFact_54 rfl ?_
            refine PW.geti (pc := 55) dX11_readsFact_55 fl_X11_141 (by decide) M.g112 ?_
            rw [y25b]
            refine PW.aload_n (pc := 58) dX11_readsFact_58 rfl ?_
            refine PW.invV0 (pc := 59) dX11_readsFact_59 mv_X11_144 (D2) M.g112 rfl rfl (Nat.le_of_ble_eq_true rfl) ?_
            (rintro v Γ' I4 R' ⟨rfl, rfl, f4, rfl, b4⟩)
            have w25 : pw_up I4 130 (σ.1.1 : Int) (-9) 112 25 = σ.1.1 := by rw [pw_up_other (by omega), f4 112 25 (by omega)]; exact y25b
            refine PW.iast (pc := 62) dX11_readsFact_62 M.g130 (by omega) (by omega) (by omega) ?_
            refine PW.aload_n (pc := 63) dX11_readsFact_63 rfl ?_
            refine PW.getr (pc := 64) dX11_readsFact_64 fl_X11_62 M.g112 M.r28 ?_
            refine PW.aload_n (pc := 67) dX11_readsFact_67 rfl ?_
            refine PW.geti (pc := 68) dX11_readsFact_68 fl_X11_141 (by decide) M.g112 ?_
            rw [w25]
            refine PW.iald (pc := 71) dX11_readsFact_71 M.g130 (by omega) (by omega) (by omega) ?_
            rw [pw_up_self]
            refine PW.bipush (pc := 72) dX11_readsFact_72 (by decide) ?_
            refine PW.icmp_ne (pc := 74) (tgt := 79) dX11_readsFact_74 (by decide) (by first | omega | exact rg_of _) (by first | omega | exact rg_of _) (fun c_74 => ?_) (fun c_74 => ?_)
            · omega
            · refine PW.iconst (pc := 77) dX11_readsFact_77 ?_
              exact PW.zreturn (pc := 78) dX11_readsFact_78 rfl (by first | exact Or.inl rfl | exact Or.inr rfl | omega) (⟨rfl, rfl, fun q z g => by rw [pw_up_other (by omega), f4 q z (by omega), z3 q z (by omega), f2 q z (by omega), z1 q z (by omega)], rfl, by rw [pw_up_other (by omega)]; exact b4⟩)
          · omega
        · omega
      · dsimp only
        rw [hr2] at C2 rr2
        dsimp only at rr2
        have rr2' := rr2.2 rfl
        refine PW.aload_n (pc := 0) dX11_readsFact_0 rfl ?_
        refine PW.geti (pc := 1) dX11_readsFact_1 fl_X11_141 (by decide) M.g112 ?_
        rw [F1]
        refine PW.bipush (pc := 4) dX11_readsFact_4 (by decide) ?_
        refine PW.icmp_ne (pc := 6) (tgt := 11) dX11_readsFact_6 (by decide) (by first | omega | exact rg_of _) (by first | omega | exact rg_of _) (fun c_6 => ?_) (fun c_6 => ?_)
        · refine PW.aload_n (pc := 11) dX11_readsFact_11 rfl ?_
          refine PW.getr (pc := 12) dX11_readsFact_12 fl_X11_56 M.g112 M.r26 ?_
          refine PW.aload_n (pc := 15) dX11_readsFact_15 rfl ?_
          refine PW.geti (pc := 16) dX11_readsFact_16 fl_X11_141 (by decide) M.g112 ?_
          rw [F1]
          refine PW.iload_n (pc := 19) dX11_readsFact_19 rfl ?_
          refine PW.zast (pc := 20) dX11_readsFact_20 M.g128 (by omega) (by omega) (by omega) (by first | exact Or.inl rfl | exact Or.inr rfl | omega) ?_
          rw [hI1]
          refine PW.aload_n (pc := 21) dX11_readsFact_21 rfl ?_
          refine PW.getr (pc := 22) dX11_readsFact_22 fl_X11_59 M.g112 M.r27 ?_
          refine PW.aload_n (pc := 25) dX11_readsFact_25 rfl ?_
          refine PW.geti (pc := 26) dX11_readsFact_26 fl_X11_141 (by decide) M.g112 ?_
          rw [y25]
          refine PW.aload_n (pc := 29) dX11_readsFact_29 rfl ?_
          refine PW.invV0 (pc := 30) dX11_readsFact_30 mv_X11_144 (C1) M.g112 rfl rfl (Nat.le_of_ble_eq_true rfl) ?_
          (rintro v Γ' I2 R' ⟨rfl, rfl, f2, i, tb1, rfl, ⟨i0, i1, i2⟩, n2, G2, z2⟩; dsimp only at n2 z2)
          have z3 : ∀ q z, ¬ (q = 129 ∧ z = (σ.1.1 : Int)) → pw_up I2 129 (σ.1.1 : Int) i q z = I2 q z := fun q z g => pw_up_other g
          have s3 : pw_up I2 129 (σ.1.1 : Int) i 129 (σ.1.1 : Int) = i := pw_up_self _ _ _ _
          generalize hI3 : pw_up I2 129 (σ.1.1 : Int) i = I3 at z3 s3
          have y25b : I3 112 25 = σ.1.1 := by rw [z3 _ _ (by omega), f2 _ _ (by omega)]; exact y25
          have x13 : I3 112 13 = I2 112 13 := z3 112 13 (by omega)
          have D2 := C2 I3 tb1 (fun q z g => by rw [z3 q z (by omega), f2 q z (by omega)]) (by rw [z3 _ _ (by omega)]; exact n2) (by rw [x13]; exact G2.1.cg (fun q a b k _ _ => z3 q k (by omega))) (by rw [x13]; exact z2)
          refine PW.iast (pc := 33) dX11_readsFact_33 M.g129 (by omega) (by omega) (by omega) ?_
          rw [hI3]
          refine PW.aload_n (pc := 34) dX11_readsFact_34 rfl ?_
          refine PW.getr (pc := 35) dX11_readsFact_35 fl_X11_59 M.g112 M.r27 ?_
          refine PW.aload_n (pc := 38) dX11_readsFact_38 rfl ?_
          refine PW.geti (pc := 39) dX11_readsFact_39 fl_X11_141 (by decide) M.g112 ?_
          rw [y25b]
          refine PW.iald (pc := 42) dX11_readsFact_42 M.g129 (by omega) (by omega) (by omega) ?_
          rw [s3]
          refine PW.bipush (pc := 43) dX11_readsFact_43 (by decide) ?_
          refine PW.icmp_ne (pc := 45) (tgt := 50) dX11_readsFact_45 (by decide) (by first | omega | exact rg_of _) (by first | omega | exact rg_of _) (fun c_45 => ?_) (fun c_45 => ?_)
          · refine PW.aload_n (pc := 50) dX11_readsFact_50 rfl ?_
            refine PW.getr (pc := 51) dX11_readsFact_51 fl_X11_62 M.g112 M.r28 ?_
            refine PW.aload_n (pc := 54) dX11_readsFact_54 rfl ?_
            refine PW.geti (pc := 55) dX11_readsFact_55 fl_X11_141 (by decide) M.g112 ?_
            rw [y25b]
            refine PW.aload_n (pc := 58) dX11_readsFact_58 rfl ?_
            refine PW.invV0 (pc := 59) dX11_readsFact_59 mv_X11_144 (D2) M.g112 rfl rfl (Nat.le_of_ble_eq_true rfl) ?_
            (rintro v Γ' I4 R' ⟨rfl, rfl, f4, j, tb3, rfl, ⟨j0, j1, j2⟩, n4, G4, z4⟩; dsimp only at n4 z4)
            have z5 : ∀ q z, ¬ (q = 130 ∧ z = (σ.1.1 : Int)) → pw_up I4 130 (σ.1.1 : Int) j q z = I4 q z := fun q z g => pw_up_other g
            have s5 : pw_up I4 130 (σ.1.1 : Int) j 130 (σ.1.1 : Int) = j := pw_up_self _ _ _ _
            generalize hI5 : pw_up I4 130 (σ.1.1 : Int) j = I5 at z5 s5
            have y25c : I5 112 25 = σ.1.1 := by rw [z5 _ _ (by omega), f4 _ _ (by omega)]; exact y25b
            refine PW.iast (pc := 62) dX11_readsFact_62 M.g130 (by omega) (by omega) (by omega) ?_
            rw [hI5]
            refine PW.aload_n (pc := 63) dX11_readsFact_63 rfl ?_
            refine PW.getr (pc := 64) dX11_readsFact_64 fl_X11_62 M.g112 M.r28 ?_
            refine PW.aload_n (pc := 67) dX11_readsFact_67 rfl ?_
            refine PW.geti (pc := 68) dX11_readsFact_68 fl_X11_141 (by decide) M.g112 ?_
            rw [y25c]
            refine PW.iald (pc := 71) dX11_readsFact_71 M.g130 (by omega) (by omega) (by omega) ?_
            rw [s5]
            refine PW.bipush (pc := 72) dX11_readsFact_72 (by decide) ?_
            refine PW.icmp_ne (pc := 74) (tgt := 79) dX11_readsFact_74 (by decide) (by first | omega | exact rg_of _) (by first | omega | exact rg_of _) (fun c_74 => ?_) (fun c_74 => ?_)
            · refine PW.aload_n (pc := 79) dX11_readsFact_79 rfl ?_
              refine PW.dup (pc := 80) dX11_readsFact_80 ?_
              refine PW.geti (pc := 81) dX11_readsFact_81 fl_X11_141 (by decide) M.g112 ?_
              rw [y25c]
              refine PW.iconst (pc := 84) dX11_readsFact_84 ?_
              refine PW.iadd (pc := 85) dX11_readsFact_85 ?_
              refine PW.puti (pc := 86) dX11_readsFact_86 fl_X11_141 M.g112 ?_
              refine PW.iconst (pc := 89) dX11_readsFact_89 ?_
              exact PW.zreturn (pc := 90) dX11_readsFact_90 rfl (by first | exact Or.inl rfl | exact Or.inr rfl | omega) (by
              have z6 : ∀ q z, ¬ (q = 112 ∧ z = 25) → pw_up I5 112 25 ((σ.1.1 : Int) + 1) q z = I5 q z := fun q z g => pw_up_other g
              have s6 : pw_up I5 112 25 ((σ.1.1 : Int) + 1) 112 25 = (σ.1.1 : Int) + 1 := pw_up_self _ _ _ _
              generalize pw_up I5 112 25 ((σ.1.1 : Int) + 1) = I6 at z6 s6
              have fr : ∀ q z, ¬ ((q = 112 ∧ (z = 13 ∨ (22 ≤ z ∧ z ≤ 25))) ∨ (122 ≤ q ∧ q ≤ 124) ∨ ((128 ≤ q ∧ q ≤ 130) ∧ z = (σ.1.1 : Int)) ∨ q = 132 ∨ q = 133) → I6 q z = I q z := fun q z g => by rw [z6 q z (by omega), z5 q z (by omega), f4 q z (by omega), z3 q z (by omega), f2 q z (by omega), z1 q z (by omega)]
              have e13 : I6 112 13 = I4 112 13 := by rw [z6 _ _ (by omega), z5 _ _ (by omega)]
              have x8 : I6 128 (σ.1.1 : Int) = 1 - e := by rw [z6 _ _ (by omega), z5 _ _ (by omega), f4 _ _ (by omega), z3 _ _ (by omega), f2 _ _ (by omega)]; exact s1
              have x9 : I6 129 (σ.1.1 : Int) = i := by rw [z6 _ _ (by omega), z5 _ _ (by omega), f4 _ _ (by omega)]; exact s3
              have x10 : I6 130 (σ.1.1 : Int) = j := by rw [z6 _ _ (by omega)]; exact s5
              have GA : MGr I I3 tb tb1 (fun u => sub u ta) := (G2.left y13.symm).cg (fun q z g => z3 q z (by omega))
              have G : MGr I I6 tb tb3 (fun u => sub u ta ∨ sub u tb2) := (GA.trans G4 (fun u => Iff.rfl)).cg (fun q z g => by rw [z6 q z (by omega), z5 q z (by omega)])
              have mo4 := G4.2.1
              have mo2 := GA.2.1
              refine ⟨rfl, rfl, fun q z g => fr q z (by omega), rfl, by rw [z6 _ _ (by omega), z5 _ _ (by omega)]; exact n4, tb3, ⟨s6, by show σ.1.1 + 1 ≤ 6; omega, fun k k0 k1 => ?_⟩, PP.cg (fr _ _ (by omega)) (fun k _ _ => fr _ _ (by omega)), G.1, fun u => ?_, by rw [e13]; exact z4⟩
              · have k1' : k < (σ.1.1 : Int) + 1 := k1
                unfold fpush
                dsimp only
                rw [e13]
                by_cases q : k = (σ.1.1 : Int)
                · subst q
                  rw [if_pos rfl, if_pos rfl, if_pos rfl, x8, x9, x10]
                  exact ⟨⟨rfl, he⟩, ⟨i0, by omega, by rw [G4.2.2.1 i (by omega)]; exact i2⟩, j0, j1, j2⟩
                · rw [if_neg q, if_neg q, if_neg q, fr 128 k (by omega), fr 129 k (by omega), fr 130 k (by omega)]
                  obtain ⟨c1, ⟨c2, c3, c4⟩, c5, c6, c7⟩ := F3 k k0 (by omega)
                  exact ⟨c1, ⟨c2, by omega, by rw [G.2.2.1 _ c3]; exact c4⟩, c5, by omega, by rw [G.2.2.1 _ c6]; exact c7⟩
              · rw [G.ut u, PU u, UF_push, or_assoc])
            · omega
          · omega
        · omega
set_option maxRecDepth 100000 in
set_option maxHeartbeats 1000000 in
theorem digs {k : Nat} (hk : k ≤ 2) {D S T : Int} (hD : 0 ≤ D ∧ D ≤ 3) (hS : 0 ≤ S ∧ S ≤ 3) (hT : 0 ≤ T ∧ T ≤ 3) : okc (64 * (k : Int) + 16 * D + 4 * S + T) ∧ kd (64 * (k : Int) + 16 * D + 4 * S + T) = k ∧ dd (64 * (k : Int) + 16 * D + 4 * S + T) = D ∧ ss (64 * (k : Int) + 16 * D + 4 * S + T) = S ∧ tt (64 * (k : Int) + 16 * D + 4 * S + T) = T := by
  unfold okc kd dd ss tt
  exact ⟨by omega, by omega, by omega, by omega, by omega⟩
end MITEM
