section MREL
variable {sc : PSc} {Γ : List PTy} {R : PRm}
/-- a setting in a row of 29 numbers -/
def MRow (f : Int → Int) (v : SV) : Prop := f 0 = (vn v : Int) ∧ (∀ k : Int, 0 ≤ k → k < vn v → f (1 + 4 * k + 0) = kd (vP v k) ∧ f (1 + 4 * k + 1) = dd (vP v k) ∧ f (1 + 4 * k + 2) = ss (vP v k) ∧ f (1 + 4 * k + 3) = tt (vP v k)) ∧ f 25 = vi v ∧ f 26 = vl v ∧ f 27 = vf v ∧ f 28 = vw v
set_option maxRecDepth 100000 in
set_option maxHeartbeats 1000000 in
theorem MRow.cg {f g : Int → Int} {v : SV} (h : MRow f v) (hn : vn v ≤ 6) (e : ∀ j : Int, 0 ≤ j → j < 29 → g j = f j) : MRow g v := by
  obtain ⟨a, b, c⟩ := h
  unfold MRow
  rw [e 0 (by omega) (by omega), e 25 (by omega) (by omega), e 26 (by omega) (by omega), e 27 (by omega) (by omega), e 28 (by omega) (by omega)]
  refine ⟨a, fun k k0 k1 => ?_, c⟩
  rw [e _ (by omega) (by omega), e _ (by omega) (by omega), e _ (by omega) (by omega), e _ (by omega) (by omega)]
  exact b k k0 k1
def MTx (s : CS) (I : PIm) : Prop := I 112 20 = cN s ∧ cN s ≤ 100 ∧ ∀ k : Int, 0 ≤ k → k < cN s → I 127 k = cTx s k ∧ 0 ≤ cTx s k ∧ cTx s k ≤ 255
def MFa (s : CS) (I : PIm) (tb : Int → Tm) : Prop := MFcts I (cF s) tb (I 112 14) ∧ MTab I (I 112 14) tb ∧ I 112 14 ≤ 104 ∧ ∀ u, UT tb (I 112 14) u ↔ UF (cF s) u
def MHi (s : CS) (I : PIm) : Prop := I 112 7 = cNh s ∧ cNh s ≤ 10 ∧ ∀ i : Int, 0 ≤ i → i < cNh s → MRow (fun j => I 117 (29 * i + j)) (cHs s i) ∧ okF s (cHs s i)
def MIm (s : CS) (I : PIm) : Prop := ∀ i : Int, 0 ≤ i → i ≤ 1 → I 119 i = (cIm s i).1 ∧ ((cIm s i).1 = 0 ∨ ((cIm s i).1 = 1 ∧ MRow (fun j => I 118 (29 * i + j)) (cIm s i).2 ∧ okF s (cIm s i).2))
def MSe (s : CS) (I : PIm) : Prop := I 112 10 = cNs s ∧ cNs s ≤ 4 ∧ ∀ i : Int, 0 ≤ i → i < cNs s → (I 120 i = (cSeen s i).1 ∧ 0 ≤ (cSeen s i).1 ∧ (cSeen s i).1 ≤ 15) ∧ MRow (fun j => I 121 (29 * i + j)) (cSeen s i).2 ∧ SVok (cSeen s i).2
def MVal (s : CS) (I : PIm) : Prop := MTx s I ∧ (∃ tb, MFa s I tb) ∧ (MRow (I 116) (cNow s) ∧ okF s (cNow s)) ∧ MHi s I ∧ MIm s I ∧ MSe s I
def MPo (Γ : List PTy) (I0 : PIm) (R0 : PRm) (a : Int) (s' : CS) : PPost := fun v Γ' I' R' => v = some (.inl a) ∧ Γ' = Γ ∧ R' = R0 ∧ (∀ q, q < 112 → I' q = I0 q) ∧ MVal s' I'
set_option maxRecDepth 100000 in
set_option maxHeartbeats 1000000 in
theorem MTx.cg {s s' : CS} {I I' : PIm} (h : MTx s I) (hs : s'.1 = s.1) (e1 : I' 112 20 = I 112 20) (e2 : I' 127 = I 127) : MTx s' I' := by
  unfold MTx cN cTx at h ⊢
  rw [hs, e1, e2]; exact h
set_option maxRecDepth 100000 in
set_option maxHeartbeats 1000000 in
theorem MFa.cg {s s' : CS} {I I' : PIm} {tb tb' : Int → Tm} (h : MFa s I tb) (hs : cF s' = cF s) (e1 : I' 112 1 = I 112 1) (e14 : I' 112 14 = I 112 14) (e : ∀ q, 113 ≤ q → q ≤ 115 → I' q = I q) (T : MTab I' (I' 112 14) tb') (ht : ∀ j, 0 ≤ j → j < I 112 14 → tb' j = tb j) : MFa s' I' tb' := by
  obtain ⟨a, b, c, d⟩ := h
  rw [e14] at T
  unfold MFa
  rw [e14, hs]
  refine ⟨a.cg e1 e (Int.le_refl _) ht, T, c, fun u => ?_⟩
  rw [← d u]
  exact ⟨fun ⟨i, i0, i1, q⟩ => ⟨i, i0, i1, by rw [← ht i i0 i1]; exact q⟩, fun ⟨i, i0, i1, q⟩ => ⟨i, i0, i1, by rw [ht i i0 i1]; exact q⟩⟩
set_option maxRecDepth 100000 in
set_option maxHeartbeats 1000000 in
theorem MHi.cg {s s' : CS} {I I' : PIm} (h : MHi s I) (hs : cF s' = cF s) (h1 : cNh s' = cNh s) (h2 : cHs s' = cHs s) (e1 : I' 112 7 = I 112 7) (e2 : I' 117 = I 117) : MHi s' I' := by
  unfold MHi okF at h ⊢
  rw [h1, h2, hs, e1, e2]; exact h
set_option maxRecDepth 100000 in
set_option maxHeartbeats 1000000 in
theorem MIm.cg {s s' : CS} {I I' : PIm} (h : MIm s I) (hs : cF s' = cF s) (h1 : cIm s' = cIm s) (e1 : I' 118 = I 118) (e2 : I' 119 = I 119) : MIm s' I' := by
  unfold MIm okF at h ⊢
  rw [h1, hs, e1, e2]; exact h
set_option maxRecDepth 100000 in
set_option maxHeartbeats 1000000 in
theorem MSe.cg {s s' : CS} {I I' : PIm} (h : MSe s I) (h1 : cNs s' = cNs s) (h2 : cSeen s' = cSeen s) (e1 : I' 112 10 = I 112 10) (e2 : I' 120 = I 120) (e3 : I' 121 = I 121) : MSe s' I' := by
  unfold MSe at h ⊢
  rw [h1, h2, e1, e2, e3]; exact h
set_option maxRecDepth 100000 in
set_option maxHeartbeats 1000000 in
theorem MVal.cg {s : CS} {I I' : PIm} (h : MVal s I) (e112 : ∀ k : Int, k = 1 ∨ k = 7 ∨ k = 10 ∨ k = 14 ∨ k = 20 → I' 112 k = I 112 k) (e : ∀ q, (113 ≤ q ∧ q ≤ 121) ∨ q = 127 → I' q = I q) (et : ∀ q, 122 ≤ q → q ≤ 124 → ∀ k : Int, 0 ≤ k → k < I 112 14 → I' q k = I q k) : MVal s I' := by
  obtain ⟨a, ⟨tb, b⟩, ⟨c, c'⟩, d, f, g⟩ := h
  have e14 := e112 14 (by omega)
  exact ⟨a.cg rfl (e112 20 (by omega)) (e 127 (by omega)), ⟨tb, b.cg rfl (e112 1 (by omega)) e14 (fun q a b => e q (by omega)) (by rw [e14]; exact b.2.1.cg (fun q g1 g2 k k0 k1 => et q g1 g2 k k0 k1)) (fun _ _ _ => rfl)⟩, ⟨by rw [e 116 (by omega)]; exact c, c'⟩, d.cg rfl rfl rfl (e112 7 (by omega)) (e 117 (by omega)), f.cg rfl rfl (e 118 (by omega)) (e 119 (by omega)), g.cg rfl rfl (e112 10 (by omega)) (e 120 (by omega)) (e 121 (by omega))⟩
set_option maxRecDepth 100000 in
set_option maxHeartbeats 1000000 in
theorem MVal.thr {s : CS} {I : PIm} (h : MVal s I) : MVal s (pw_up I 112 0 0) := h.cg (fun k hk => pw_up_other (by omega)) (fun q hq => pw_up_ne q (by omega)) (fun q a b k _ _ => by rw [pw_up_ne q (by omega)])
set_option maxRecDepth 100000 in
set_option maxHeartbeats 1000000 in
/-- behind a run the rows stand as they stood -/
theorem MFa.run {s : CS} {I I' : PIm} {tb tb' : Int → Tm} {P : Int → Int} {lag fw w : Int} {n : Nat} (h : MFa s I tb) (r : MRun I I' tb tb' P lag fw w n) : MFa s I' tb' ∧ MFcts I' (cF s) tb' (I' 112 13) ∧ (∀ u, UT tb' (I' 112 13) u ↔ UR (UF (cF s)) P lag fw w n u) := by
  obtain ⟨r1, r2, r3, r4, r5, r6, r7⟩ := r
  have e14 : I' 112 14 = I 112 14 := r7 112 14 (by omega)
  have F := h.cg (s' := s) (I' := I') (tb' := tb') rfl (r7 112 1 (by omega)) e14 (fun q a b => by funext z; exact r7 q z (by omega)) (by rw [e14]; exact r1.sub h.2.1.1 (by omega)) (fun j j0 j1 => r3 j j1)
  refine ⟨F, F.1.cg rfl (fun _ _ _ => rfl) (by omega) (fun _ _ _ => rfl), fun u => ?_⟩
  rw [r4 u]
  unfold UR
  rw [h.2.2.2 u]
set_option maxRecDepth 100000 in
set_option maxHeartbeats 1000000 in
theorem MVal.run {s : CS} {I I' : PIm} {tb tb' : Int → Tm} {P : Int → Int} {lag fw w : Int} {n : Nat} (h : MVal s I) (hF : MFa s I tb) (r : MRun I I' tb tb' P lag fw w n) : MVal s I' := by
  obtain ⟨a, -, ⟨c, c'⟩, d, f, g⟩ := h
  have F := (hF.run r).1
  obtain ⟨r1, r2, r3, r4, r5, r6, r7⟩ := r
  have e : ∀ q, (113 ≤ q ∧ q ≤ 121) ∨ q = 127 → I' q = I q := fun q g => by funext z; exact r7 q z (by omega)
  exact ⟨a.cg rfl (r7 112 20 (by omega)) (e 127 (by omega)), ⟨tb', F⟩, ⟨by rw [e 116 (by omega)]; exact c, c'⟩, d.cg rfl rfl rfl (r7 112 7 (by omega)) (e 117 (by omega)), f.cg rfl rfl (e 118 (by omega)) (e 119 (by omega)), g.cg rfl rfl (r7 112 10 (by omega)) (e 120 (by omega)) (e 121 (by omega))⟩
set_option maxRecDepth 100000 in
set_option maxHeartbeats 1000000 in
theorem MRow.prog {I : PIm} {v : SV} (h : MRow (I 116) v) (ok : SVok v) : ProgM I (vP v) (vn v) := ⟨h.1, ok.1, fun k k0 k1 => ⟨ok.2.1 k k0 k1, h.2.1 k k0 k1⟩⟩
set_option maxRecDepth 100000 in
set_option maxHeartbeats 1000000 in
theorem or_zerod : ∀ x : Fin 16, pw_or (x.val : Int) 0 = (x.val : Int) := by decide +kernel
set_option maxRecDepth 100000 in
set_option maxHeartbeats 1000000 in
theorem or_zero {x : Int} (h0 : 0 ≤ x) (h1 : x < 16) : pw_or x 0 = x := by
  have := or_zerod ⟨x.toNat, by omega⟩
  simpa [Int.toNat_of_nonneg h0] using this
set_option maxRecDepth 100000 in
set_option maxHeartbeats 1000000 in
theorem pow_16 {k : Nat} (h : k < 4) : (2 : Int) ^ k ≤ 8 := by
  rcases (show k = 0 ∨ k = 1 ∨ k = 2 ∨ k = 3 by omega) with rfl | rfl | rfl | rfl <;> decide
set_option maxRecDepth 100000 in
set_option maxHeartbeats 1000000 in
/-- WRONG, of the program as it was gone through last -/
theorem c_X11_wrongBy (d : Nat) {I : PIm} {tb : Int → Tm} {F : FS} {P : Int → Int} {lag fw w fs : Int} {n : Nat} (M : MAt Γ R) (T : MTab I (I 112 13) tb) (hz : I 112 13 ≤ 200) (hF : MFcts I F tb (I 112 13)) (hU : ∀ u, UT tb (I 112 13) u ↔ UR (UF F) P lag fw w n u) (ha : ∀ r : Int, 0 ≤ r → r < 4 → (0 ≤ I 140 r ∧ I 140 r < I 112 13 ∧ tb (I 140 r) = plT P n r) ∧ (0 ≤ I 140 (r + 4) ∧ I 140 (r + 4) < I 112 13 ∧ tb (I 140 (r + 4)) = piT P lag fw w n r)) : PC sc mX11_wrongBy (d + 2) 0 0 [.inr (some 112), .inl fs] Γ I R (fun v Γ' I' R' => v = some (.inl (wrg F fs P lag fw w n)) ∧ Γ' = Γ ∧ R' = R ∧ ∀ q, q ≠ 137 → I' q = I q) := by
  have h4 := T.1
  obtain ⟨zn, hzn⟩ : ∃ z : Nat, I 112 13 = z := ⟨(I 112 13).toNat, by omega⟩
  have eU : UT tb (I 112 13) = _ := funext fun u => propext (hU u)
  rw [hzn] at T hz hF eU ha
  unfold wrg
  rw [← eU]
  have loop : ∀ (I1 : PIm) (y : ∀ q, q ≠ 137 → I1 q = I q) (k1 : KC (I1 137) zn tb (EQ F fs)) (hno : ¬ ROut (UT tb zn) F fs (EQ F fs)) (N k : Nat), 4 - k = N → k ≤ 4 → PW sc mX11_wrongBy (d + 2) 0 0 (fun v Γ' I' R' => v = some (.inl (if cdec (ROut (UT tb zn) F fs (EQ F fs)) = true then 0 else bsum (fun r => cdec (¬ Cl (UT tb zn) (EQ F fs) (plT P n r) (piT P lag fw w n r))) 4)) ∧ Γ' = Γ ∧ R' = R ∧ ∀ q, q ≠ 137 → I' q = I q) 21 [some (.inr (some 112)), some (.inl fs), some (.inl (bsum (fun r => cdec (¬ Cl (UT tb zn) (EQ F fs) (plT P n r) (piT P lag fw w n r))) k)), some (.inl (k : Int))] [] Γ I1 R := by
    intro I1 y k1 hno N
    induction N using Nat.strongRecOn with
    | _ N ih =>
      intro k hN hk
      by_cases hk4 : k < 4
      · have ob := or_bsum (fun r => cdec (¬ Cl (UT tb zn) (EQ F fs) (plT P n r) (piT P lag fw w n r))) (k := k) (by omega)
        obtain ⟨⟨x1, x2, x3⟩, x4, x5, x6⟩ := ha k (by omega) (by omega)
        have nx := ih (4 - (k + 1)) (by omega) (k + 1) rfl (by omega)
        have e1 : I1 140 k = I 140 k := by rw [y 140 (by omega)]
        have e2 : I1 140 (k + 4) = I 140 (k + 4) := by rw [y 140 (by omega)]
        have sm := k1.2 _ _ x1 x2 x4 x5
        rw [x3, x6] at sm
        have r1 := k1.1 _ x1 x2
        have r2 := k1.1 _ x4 x5
        have bg := bsum_rg (fun r => cdec (¬ Cl (UT tb zn) (EQ F fs) (plT P n r) (piT P lag fw w n r))) k
        have orz : pw_or (bsum (fun r => cdec (¬ Cl (UT tb zn) (EQ F fs) (plT P n r) (piT P lag fw w n r))) k) 0 = bsum (fun r => cdec (¬ Cl (UT tb zn) (EQ F fs) (plT P n r) (piT P lag fw w n r))) k := or_zero bg.1 (by have := pow_16 hk4; omega)
        refine PW.iload_n (pc := 21) dX11_wrongBy_21 rfl ?_
        refine PW.iconst (pc := 22) dX11_wrongBy_22 ?_
        refine PW.icmp_ge (pc := 23) (tgt := 69) dX11_wrongBy_23 (by decide) (by first | omega | exact rg_of _) (by first | omega | exact rg_of _) (fun c_23 => ?_) (fun c_23 => ?_)
        · omega
        · refine PW.iload_n (pc := 26) dX11_wrongBy_26 rfl ?_
          refine PW.aload_n (pc := 27) dX11_wrongBy_27 rfl ?_
          refine PW.getr (pc := 28) dX11_wrongBy_28 fl_X11_83 M.g112 M.r36 ?_
          refine PW.aload_n (pc := 31) dX11_wrongBy_31 rfl ?_
          refine PW.getr (pc := 32) dX11_wrongBy_32 fl_X11_92 M.g112 M.r39 ?_
          refine PW.iload_n (pc := 35) dX11_wrongBy_35 rfl ?_
          refine PW.iald (pc := 36) dX11_wrongBy_36 M.g140 (by omega) (by omega) (by omega) ?_
          rw [e1]
          refine PW.iald (pc := 37) dX11_wrongBy_37 M.g137 (by omega) (by omega) (by omega) ?_
          refine PW.aload_n (pc := 38) dX11_wrongBy_38 rfl ?_
          refine PW.getr (pc := 39) dX11_wrongBy_39 fl_X11_83 M.g112 M.r36 ?_
          refine PW.aload_n (pc := 42) dX11_wrongBy_42 rfl ?_
          refine PW.getr (pc := 43) dX11_wrongBy_43 fl_X11_92 M.g112 M.r39 ?_
          refine PW.iload_n (pc := 46) dX11_wrongBy_46 rfl ?_
          refine PW.iconst (pc := 47) dX11_wrongBy_47 ?_
          refine PW.iadd (pc := 48) dX11_wrongBy_48 ?_
          refine PW.iald (pc := 49) dX11_wrongBy_49 M.g140 (by omega) (by omega) (by omega) ?_
          rw [e2]
          refine PW.iald (pc := 50) dX11_wrongBy_50 M.g137 (by omega) (by omega) (by omega) ?_
          refine PW.icmp_ne (pc := 51) (tgt := 58) dX11_wrongBy_51 (by decide) (by first | omega | exact rg_of _) (by first | omega | exact rg_of _) (fun c_51 => ?_) (fun c_51 => ?_)
          · rw [if_pos (show cdec (¬ Cl (UT tb zn) (EQ F fs) (plT P n k) (piT P lag fw w n k)) = true from cdec_true.mpr (fun o => c_51 (sm.mpr o)))] at ob
            refine PW.iconst (pc := 58) dX11_wrongBy_58 ?_
            refine PW.iload_n (pc := 59) dX11_wrongBy_59 rfl ?_
            refine PW.ishl (pc := 60) dX11_wrongBy_60 ?_
            refine PW.ior (pc := 61) dX11_wrongBy_61 ?_
            first | rw [orz, ob] | rw [ob]
            refine PW.istore_n (pc := 62) dX11_wrongBy_62 (by decide) ?_
            refine PW.iinc (pc := 63) dX11_wrongBy_63 rfl (by decide) ?_
            refine PW.goto (pc := 66) (tgt := 21) dX11_wrongBy_66 (by decide) ?_
            exact nx
          · rw [if_neg (show ¬ cdec (¬ Cl (UT tb zn) (EQ F fs) (plT P n k) (piT P lag fw w n k)) = true from fun o => (cdec_true.mp o) (sm.mp c_51))] at ob
            refine PW.iconst (pc := 54) dX11_wrongBy_54 ?_
            refine PW.goto (pc := 55) (tgt := 61) dX11_wrongBy_55 (by decide) ?_
            refine PW.ior (pc := 61) dX11_wrongBy_61 ?_
            first | rw [orz, ob] | rw [ob]
            refine PW.istore_n (pc := 62) dX11_wrongBy_62 (by decide) ?_
            refine PW.iinc (pc := 63) dX11_wrongBy_63 rfl (by decide) ?_
            refine PW.goto (pc := 66) (tgt := 21) dX11_wrongBy_66 (by decide) ?_
            exact nx
      · obtain rfl : k = 4 := by omega
        refine PW.iload_n (pc := 21) dX11_wrongBy_21 rfl ?_
        refine PW.iconst (pc := 22) dX11_wrongBy_22 ?_
        refine PW.icmp_ge (pc := 23) (tgt := 69) dX11_wrongBy_23 (by decide) (by first | omega | exact rg_of _) (by first | omega | exact rg_of _) (fun c_23 => ?_) (fun c_23 => ?_)
        · refine PW.iload_n (pc := 69) dX11_wrongBy_69 rfl ?_
          exact PW.ireturn (pc := 70) dX11_wrongBy_70 rfl (⟨by rw [if_neg (fun o => hno (cdec_true.mp o))], rfl, rfl, y⟩)
        · omega
  refine PC.ofPW (by decide) (Nat.le_of_ble_eq_true rfl) ?_
  refine PW.aload_n (pc := 0) dX11_wrongBy_0 rfl ?_
  refine PW.iload_n (pc := 1) dX11_wrongBy_1 rfl ?_
  refine PW.iconst (pc := 2) dX11_wrongBy_2 ?_
  refine PW.iconst (pc := 3) dX11_wrongBy_3 ?_
  refine PW.invV0 (pc := 4) dX11_wrongBy_4 mv_X11_182 (c_X11_laysSame _ M hzn (by omega) T hF (by omega) (by omega)) M.g112 rfl rfl (Nat.le_of_ble_eq_true rfl) ?_
  (rintro v Γ' I1 R' ⟨rfl, rfl, rfl, y1, k1⟩; replace k1 := k1.self)
  have F1 : MFcts I1 F tb zn := hF.cg (by rw [y1 112 (by omega)]) (fun q a b => y1 q (by omega)) (Int.le_refl _) (fun _ _ _ => rfl)
  refine PW.aload_n (pc := 7) dX11_wrongBy_7 rfl ?_
  refine PW.iload_n (pc := 8) dX11_wrongBy_8 rfl ?_
  refine PW.invV0x (pc := 9) dX11_wrongBy_9 mv_X11_186 (c_X11_isRuledOut _ M (by omega) F1 k1) M.g112 rfl rfl (Nat.le_of_ble_eq_true rfl) ?_
  refine PW.if_eq (pc := 12) (tgt := 17) dX11_wrongBy_12 (by decide) (rg_cb _) (fun c_12 => ?_) (fun c_12 => ?_)
  · refine PW.iconst (pc := 17) dX11_wrongBy_17 ?_
    refine PW.istore_n (pc := 18) dX11_wrongBy_18 (by decide) ?_
    refine PW.iconst (pc := 19) dX11_wrongBy_19 ?_
    refine PW.istore_n (pc := 20) dX11_wrongBy_20 (by decide) ?_
    exact loop I1 y1 k1 (cb0 c_12) 4 0 rfl (by omega)
  · refine PW.iconst (pc := 15) dX11_wrongBy_15 ?_
    exact PW.ireturn (pc := 16) dX11_wrongBy_16 rfl (⟨by rw [if_pos (cdec_true.mpr (cb1 c_12))], rfl, rfl, y1⟩)
set_option maxRecDepth 100000 in
set_option maxHeartbeats 1000000 in
theorem c_X11_unlike (d : Nat) {I : PIm} {tb : Int → Tm} {P : Int → Int} {lag fw w : Int} {n : Nat} (M : MAt Γ R) (T : MTab I (I 112 13) tb) (hz : I 112 13 ≤ 200) (ha : ∀ r : Int, 0 ≤ r → r < 4 → (0 ≤ I 140 r ∧ I 140 r < I 112 13 ∧ tb (I 140 r) = plT P n r) ∧ (0 ≤ I 140 (r + 4) ∧ I 140 (r + 4) < I 112 13 ∧ tb (I 140 (r + 4)) = piT P lag fw w n r)) : PC sc mX11_unlike d 0 0 [.inr (some 112)] Γ I R (px (some (.inl (dif P lag fw w n))) Γ I R) := by
  have ed : ∀ r : Int, @decide (plT P n r ≠ piT P lag fw w n r) (Classical.propDecidable _) = cdec (plT P n r ≠ piT P lag fw w n r) := fun r => rfl
  have loop : ∀ (N k : Nat), 4 - k = N → k ≤ 4 → PW sc mX11_unlike d 0 0 (px (some (.inl (bsum (fun r => cdec (plT P n r ≠ piT P lag fw w n r)) 4))) Γ I R) 4 [some (.inr (some 112)), some (.inl (bsum (fun r => cdec (plT P n r ≠ piT P lag fw w n r)) k)), some (.inl (k : Int))] [] Γ I R := by
    intro N
    induction N using Nat.strongRecOn with
    | _ N ih =>
      intro k hN hk
      by_cases hk4 : k < 4
      · have ob := or_bsum (fun r => cdec (plT P n r ≠ piT P lag fw w n r)) (k := k) (by omega)
        obtain ⟨⟨x1, x2, x3⟩, x4, x5, x6⟩ := ha k (by omega) (by omega)
        have nx := ih (4 - (k + 1)) (by omega) (k + 1) rfl (by omega)
        have sm : I 140 k = I 140 (k + 4) ↔ plT P n k = piT P lag fw w n k := ⟨fun e => by rw [← x3, ← x6, e], fun e => T.2.2 _ _ x1 x2 x4 x5 (by rw [x3, x6, e])⟩
        have bg := bsum_rg (fun r => cdec (plT P n r ≠ piT P lag fw w n r)) k
        have orz : pw_or (bsum (fun r => cdec (plT P n r ≠ piT P lag fw w n r)) k) 0 = bsum (fun r => cdec (plT P n r ≠ piT P lag fw w n r)) k := or_zero bg.1 (by have := pow_16 hk4; omega)
        refine PW.iload_n (pc := 4) dX11_unlike_4 rfl ?_
        refine PW.iconst (pc := 5) dX11_unlike_5 ?_
        refine PW.icmp_ge (pc := 6) (tgt := 42) dX11_unlike_6 (by decide) (by first | omega | exact rg_of _) (by first | omega | exact rg_of _) (fun c_6 => ?_) (fun c_6 => ?_)
        · omega
        · refine PW.iload_n (pc := 9) dX11_unlike_9 rfl ?_
          refine PW.aload_n (pc := 10) dX11_unlike_10 rfl ?_
          refine PW.getr (pc := 11) dX11_unlike_11 fl_X11_92 M.g112 M.r39 ?_
          refine PW.iload_n (pc := 14) dX11_unlike_14 rfl ?_
          refine PW.iald (pc := 15) dX11_unlike_15 M.g140 (by omega) (by omega) (by omega) ?_
          refine PW.aload_n (pc := 16) dX11_unlike_16 rfl ?_
          refine PW.getr (pc := 17) dX11_unlike_17 fl_X11_92 M.g112 M.r39 ?_
          refine PW.iload_n (pc := 20) dX11_unlike_20 rfl ?_
          refine PW.iconst (pc := 21) dX11_unlike_21 ?_
          refine PW.iadd (pc := 22) dX11_unlike_22 ?_
          refine PW.iald (pc := 23) dX11_unlike_23 M.g140 (by omega) (by omega) (by omega) ?_
          refine PW.icmp_ne (pc := 24) (tgt := 31) dX11_unlike_24 (by decide) (by first | omega | exact rg_of _) (by first | omega | exact rg_of _) (fun c_24 => ?_) (fun c_24 => ?_)
          · rw [if_pos (show cdec (plT P n k ≠ piT P lag fw w n k) = true from cdec_true.mpr (fun o => c_24 (sm.mpr o)))] at ob
            refine PW.iconst (pc := 31) dX11_unlike_31 ?_
            refine PW.iload_n (pc := 32) dX11_unlike_32 rfl ?_
            refine PW.ishl (pc := 33) dX11_unlike_33 ?_
            refine PW.ior (pc := 34) dX11_unlike_34 ?_
            first | rw [orz, ob] | rw [ob]
            refine PW.istore_n (pc := 35) dX11_unlike_35 (by decide) ?_
            refine PW.iinc (pc := 36) dX11_unlike_36 rfl (by decide) ?_
            refine PW.goto (pc := 39) (tgt := 4) dX11_unlike_39 (by decide) ?_
            exact nx
          · rw [if_neg (show ¬ cdec (plT P n k ≠ piT P lag fw w n k) = true from fun o => (cdec_true.mp o) (sm.mp c_24))] at ob
            refine PW.iconst (pc := 27) dX11_unlike_27 ?_
            refine PW.goto (pc := 28) (tgt := 34) dX11_unlike_28 (by decide) ?_
            refine PW.ior (pc := 34) dX11_unlike_34 ?_
            first | rw [orz, ob] | rw [ob]
            refine PW.istore_n (pc := 35) dX11_unlike_35 (by decide) ?_
            refine PW.iinc (pc := 36) dX11_unlike_36 rfl (by decide) ?_
            refine PW.goto (pc := 39) (tgt := 4) dX11_unlike_39 (by decide) ?_
            exact nx
      · obtain rfl : k = 4 := by omega
        refine PW.iload_n (pc := 4) dX11_unlike_4 rfl ?_
        refine PW.iconst (pc := 5) dX11_unlike_5 ?_
        refine PW.icmp_ge (pc := 6) (tgt := 42) dX11_unlike_6 (by decide) (by first | omega | exact rg_of _) (by first | omega | exact rg_of _) (fun c_6 => ?_) (fun c_6 => ?_)
        · refine PW.iload_n (pc := 42) dX11_unlike_42 rfl ?_
          exact PW.ireturn (pc := 43) dX11_unlike_43 rfl (px_rfl)
        · omega
  refine PC.ofPW (by decide) (Nat.le_of_ble_eq_true rfl) ?_
  refine PW.iconst (pc := 0) dX11_unlike_0 ?_
  refine PW.istore_n (pc := 1) dX11_unlike_1 (by decide) ?_
  refine PW.iconst (pc := 2) dX11_unlike_2 ?_
  refine PW.istore_n (pc := 3) dX11_unlike_3 (by decide) ?_
  exact loop 4 0 rfl (by omega)
end MREL
