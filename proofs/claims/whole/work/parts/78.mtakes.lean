section MTAKES
variable {sc : PSc} {Γ : List PTy} {R : PRm}
/-! the reference reads: 20 letters, 22 next, 23 begin, 24 token -/
def nxt (tx : Int → Int) (n p : Int) : Int := if skp tx n p < n then skp tx n p + 1 else skp tx n p
def Tks (I I' : PIm) (tx : Int → Int) (n p : Int) : Prop := I' 112 22 = nxt tx n p ∧ I' 112 23 = skp tx n p ∧ I' 112 24 = tok tx n p ∧ ∀ q z, ¬ (q = 112 ∧ (z = 22 ∨ z = 23 ∨ z = 24)) → I' q z = I q z
set_option maxRecDepth 100000 in
set_option maxHeartbeats 1000000 in
theorem c_X11_takes (d : Nat) {I : PIm} {tx : Int → Int} {n p : Int} (M : MAt Γ R) (ht : I 127 = tx) (hn : I 112 20 = n) (hp : I 112 22 = p) (hx : TxOK tx n) (h0 : 0 ≤ p) (h1 : p ≤ n) : PC sc mX11_takes d 0 0 [.inr (some 112)] Γ I R (fun v Γ' I' R' => v = none ∧ Γ' = Γ ∧ R' = R ∧ Tks I I' tx n p) := by
  obtain ⟨hn0, hx0⟩ := id hx
  have loop : ∀ (N : Nat) (p' : Int), (n - p').toNat = N → 0 ≤ p' → p' ≤ n → skp tx n p' = skp tx n p → PW sc mX11_takes d 0 0 (fun v Γ' I' R' => v = none ∧ Γ' = Γ ∧ R' = R ∧ Tks I I' tx n p) 0 [some (.inr (some 112))] [] Γ (pw_up I 112 22 p') R := by
    intro N
    induction N using Nat.strongRecOn with
    | _ N ih =>
      intro p' hN q0 q1 he
      have e1 : pw_up I 112 22 p' 112 20 = n := by rw [pw_up_other (by omega)]; exact hn
      have e2 : pw_up I 112 22 p' 112 22 = p' := pw_up_self _ _ _ _
      have e3 : ∀ z, pw_up I 112 22 p' 127 z = tx z := fun z => by rw [pw_up_other (by omega), ht]
      by_cases hb : p' < n ∧ tx p' = 32
      · have he2 : skp tx n (p' + 1) = skp tx n p := by rw [← he, skp_eq tx n p', if_pos hb]
        have x0 := hx0 p' q0 hb.1
        refine PW.aload_n (pc := 0) dX11_takes_0 rfl ?_
        refine PW.geti (pc := 1) dX11_takes_1 fl_X11_129 (by decide) M.g112 ?_
        refine PW.aload_n (pc := 4) dX11_takes_4 rfl ?_
        refine PW.geti (pc := 5) dX11_takes_5 fl_X11_126 (by decide) M.g112 ?_
        rw [e1, e2]
        refine PW.icmp_ge (pc := 8) (tgt := 38) dX11_takes_8 (by decide) (by first | omega | exact rg_of _) (by first | omega | exact rg_of _) (fun c_8 => ?_) (fun c_8 => ?_)
        · omega
        · refine PW.aload_n (pc := 11) dX11_takes_11 rfl ?_
          refine PW.getr (pc := 12) dX11_takes_12 fl_X11_53 M.g112 M.r21 ?_
          refine PW.aload_n (pc := 15) dX11_takes_15 rfl ?_
          refine PW.geti (pc := 16) dX11_takes_16 fl_X11_129 (by decide) M.g112 ?_
          rw [e2]
          refine PW.iald (pc := 19) dX11_takes_19 M.g127 (by omega) (by omega) (by omega) ?_
          rw [e3]
          refine PW.bipush (pc := 20) dX11_takes_20 (by decide) ?_
          refine PW.icmp_ne (pc := 22) (tgt := 38) dX11_takes_22 (by decide) (by first | omega | exact rg_of _) (by first | omega | exact rg_of _) (fun c_22 => ?_) (fun c_22 => ?_)
          · exact absurd hb.2 c_22
          · refine PW.aload_n (pc := 25) dX11_takes_25 rfl ?_
            refine PW.dup (pc := 26) dX11_takes_26 ?_
            refine PW.geti (pc := 27) dX11_takes_27 fl_X11_129 (by decide) M.g112 ?_
            rw [e2]
            refine PW.iconst (pc := 30) dX11_takes_30 ?_
            refine PW.iadd (pc := 31) dX11_takes_31 ?_
            refine PW.puti (pc := 32) dX11_takes_32 fl_X11_129 M.g112 ?_
            rw [pw_up_up]
            refine PW.goto (pc := 35) (tgt := 0) dX11_takes_35 (by decide) ?_
            exact ih _ (by omega) (p' + 1) rfl (by omega) (by omega) he2
      · have he2 : skp tx n p = p' := by rw [← he, skp_eq tx n p', if_neg hb]
        have hlast : PW sc mX11_takes d 0 0 (fun v Γ' I' R' => v = none ∧ Γ' = Γ ∧ R' = R ∧ Tks I I' tx n p) 38 [some (.inr (some 112))] [] Γ (pw_up I 112 22 p') R := by
          have f22 : pw_up (pw_up I 112 22 p') 112 23 p' 112 22 = p' := by rw [pw_up_other (by omega)]; exact e2
          have f23 : pw_up (pw_up I 112 22 p') 112 23 p' 112 23 = p' := pw_up_self _ _ _ _
          have f20 : pw_up (pw_up I 112 22 p') 112 23 p' 112 20 = n := by rw [pw_up_other (by omega)]; exact e1
          have f127 : ∀ z, pw_up (pw_up I 112 22 p') 112 23 p' 127 z = tx z := fun z => by rw [pw_up_other (by omega)]; exact e3 z
          have fo : ∀ q z, ¬ (q = 112 ∧ (z = 22 ∨ z = 23)) → pw_up (pw_up I 112 22 p') 112 23 p' q z = I q z := fun q z g => by rw [pw_up_other (by omega), pw_up_other (by omega)]
          generalize hJ : pw_up (pw_up I 112 22 p') 112 23 p' = J at *
          have last2 : ∀ t, t = tok tx n p → PW sc mX11_takes d 0 0 (fun v Γ' I' R' => v = none ∧ Γ' = Γ ∧ R' = R ∧ Tks I I' tx n p) 74 [some (.inr (some 112))] [] Γ (pw_up J 112 24 t) R := by
            intro t htk
            have b22 : pw_up J 112 24 t 112 22 = p' := by rw [pw_up_other (by omega)]; exact f22
            have b20 : pw_up J 112 24 t 112 20 = n := by rw [pw_up_other (by omega)]; exact f20
            have fin : ∀ v, v = nxt tx n p → Tks I (pw_up (pw_up J 112 24 t) 112 22 v) tx n p := fun v hv => ⟨by rw [pw_up_self]; exact hv, by rw [pw_up_other (by omega), pw_up_other (by omega), f23, he2], by rw [pw_up_other (by omega), pw_up_self]; exact htk, fun q z g => by rw [pw_up_other (by omega), pw_up_other (by omega)]; exact fo q z (by omega)⟩
            refine PW.aload_n (pc := 74) dX11_takes_74 rfl ?_
            refine PW.dup (pc := 75) dX11_takes_75 ?_
            refine PW.geti (pc := 76) dX11_takes_76 fl_X11_129 (by decide) M.g112 ?_
            rw [b22]
            refine PW.aload_n (pc := 79) dX11_takes_79 rfl ?_
            refine PW.geti (pc := 80) dX11_takes_80 fl_X11_129 (by decide) M.g112 ?_
            refine PW.aload_n (pc := 83) dX11_takes_83 rfl ?_
            refine PW.geti (pc := 84) dX11_takes_84 fl_X11_126 (by decide) M.g112 ?_
            rw [b20, b22]
            refine PW.icmp_ge (pc := 87) (tgt := 94) dX11_takes_87 (by decide) (by first | omega | exact rg_of _) (by first | omega | exact rg_of _) (fun c_87 => ?_) (fun c_87 => ?_)
            · refine PW.iconst (pc := 94) dX11_takes_94 ?_
              refine PW.iadd (pc := 95) dX11_takes_95 ?_
              refine PW.puti (pc := 96) dX11_takes_96 fl_X11_129 M.g112 ?_
              exact PW.vreturn (pc := 99) dX11_takes_99 rfl (⟨rfl, rfl, rfl, fin _ (by unfold nxt; rw [he2]; first | (rw [if_pos (by omega)]) | (rw [if_neg (by omega)]; omega))⟩)
            · refine PW.iconst (pc := 90) dX11_takes_90 ?_
              refine PW.goto (pc := 91) (tgt := 95) dX11_takes_91 (by decide) ?_
              refine PW.iadd (pc := 95) dX11_takes_95 ?_
              refine PW.puti (pc := 96) dX11_takes_96 fl_X11_129 M.g112 ?_
              exact PW.vreturn (pc := 99) dX11_takes_99 rfl (⟨rfl, rfl, rfl, fin _ (by unfold nxt; rw [he2]; first | (rw [if_pos (by omega)]) | (rw [if_neg (by omega)]; omega))⟩)
          refine PW.aload_n (pc := 38) dX11_takes_38 rfl ?_
          refine PW.aload_n (pc := 39) dX11_takes_39 rfl ?_
          refine PW.geti (pc := 40) dX11_takes_40 fl_X11_129 (by decide) M.g112 ?_
          rw [e2]
          refine PW.puti (pc := 43) dX11_takes_43 fl_X11_132 M.g112 ?_
          rw [hJ]
          refine PW.aload_n (pc := 46) dX11_takes_46 rfl ?_
          refine PW.aload_n (pc := 47) dX11_takes_47 rfl ?_
          refine PW.geti (pc := 48) dX11_takes_48 fl_X11_129 (by decide) M.g112 ?_
          refine PW.aload_n (pc := 51) dX11_takes_51 rfl ?_
          refine PW.geti (pc := 52) dX11_takes_52 fl_X11_126 (by decide) M.g112 ?_
          rw [f20, f22]
          refine PW.icmp_ge (pc := 55) (tgt := 70) dX11_takes_55 (by decide) (by first | omega | exact rg_of _) (by first | omega | exact rg_of _) (fun c_55 => ?_) (fun c_55 => ?_)
          · refine PW.iconst (pc := 70) dX11_takes_70 ?_
            refine PW.puti (pc := 71) dX11_takes_71 fl_X11_135 M.g112 ?_
            exact last2 _ (by unfold tok; rw [he2]; first | (rw [if_pos (by omega)]) | (rw [if_neg (by omega)]))
          · refine PW.aload_n (pc := 58) dX11_takes_58 rfl ?_
            refine PW.getr (pc := 59) dX11_takes_59 fl_X11_53 M.g112 M.r21 ?_
            refine PW.aload_n (pc := 62) dX11_takes_62 rfl ?_
            refine PW.geti (pc := 63) dX11_takes_63 fl_X11_129 (by decide) M.g112 ?_
            rw [f22]
            refine PW.iald (pc := 66) dX11_takes_66 M.g127 (by omega) (by omega) (by omega) ?_
            rw [f127]
            refine PW.goto (pc := 67) (tgt := 71) dX11_takes_67 (by decide) ?_
            refine PW.puti (pc := 71) dX11_takes_71 fl_X11_135 M.g112 ?_
            exact last2 _ (by unfold tok; rw [he2]; first | (rw [if_pos (by omega)]) | (rw [if_neg (by omega)]))
        by_cases hlt : p' < n
        · have x0 := hx0 p' q0 hlt
          refine PW.aload_n (pc := 0) dX11_takes_0 rfl ?_
          refine PW.geti (pc := 1) dX11_takes_1 fl_X11_129 (by decide) M.g112 ?_
          refine PW.aload_n (pc := 4) dX11_takes_4 rfl ?_
          refine PW.geti (pc := 5) dX11_takes_5 fl_X11_126 (by decide) M.g112 ?_
          rw [e1, e2]
          refine PW.icmp_ge (pc := 8) (tgt := 38) dX11_takes_8 (by decide) (by first | omega | exact rg_of _) (by first | omega | exact rg_of _) (fun c_8 => ?_) (fun c_8 => ?_)
          · omega
          · refine PW.aload_n (pc := 11) dX11_takes_11 rfl ?_
            refine PW.getr (pc := 12) dX11_takes_12 fl_X11_53 M.g112 M.r21 ?_
            refine PW.aload_n (pc := 15) dX11_takes_15 rfl ?_
            refine PW.geti (pc := 16) dX11_takes_16 fl_X11_129 (by decide) M.g112 ?_
            rw [e2]
            refine PW.iald (pc := 19) dX11_takes_19 M.g127 (by omega) (by omega) (by omega) ?_
            rw [e3]
            refine PW.bipush (pc := 20) dX11_takes_20 (by decide) ?_
            refine PW.icmp_ne (pc := 22) (tgt := 38) dX11_takes_22 (by decide) (by first | omega | exact rg_of _) (by first | omega | exact rg_of _) (fun c_22 => ?_) (fun c_22 => ?_)
            · exact hlast
            · exact absurd ⟨hlt, c_22⟩ hb
        · refine PW.aload_n (pc := 0) dX11_takes_0 rfl ?_
          refine PW.geti (pc := 1) dX11_takes_1 fl_X11_129 (by decide) M.g112 ?_
          refine PW.aload_n (pc := 4) dX11_takes_4 rfl ?_
          refine PW.geti (pc := 5) dX11_takes_5 fl_X11_126 (by decide) M.g112 ?_
          rw [e1, e2]
          refine PW.icmp_ge (pc := 8) (tgt := 38) dX11_takes_8 (by decide) (by first | omega | exact rg_of _) (by first | omega | exact rg_of _) (fun c_8 => ?_) (fun c_8 => ?_)
          · exact hlast
          · omega
  refine PC.ofPW (by decide) (Nat.le_of_ble_eq_true rfl) ?_
  have := loop _ p rfl h0 h1 rfl
  rw [pw_up_id hp] at this
  exact this
/-- what stands open: f; g; g and its first part -/
abbrev Fr : Type := Option (Option Tm)
def ctn (tx : Int → Int) (n : Int) : List Fr → Option Tm × Int → Option Tm × Int
  | [], r => r
  | none :: st, r => ctn tx n st (match r with
      | (some a, p) => (some (tf a), p)
      | (none, f) => (none, f))
  | some none :: st, r => ctn tx n st (match r with
      | (some a, p) => (match pT tx n (3 - st.length) p with
        | (some b, p2) => (some (tg a b), p2)
        | (none, f) => (none, f))
      | (none, f) => (none, f))
  | some (some l) :: st, r => ctn tx n st (match r with
      | (some b, p) => (some (tg l b), p)
      | (none, f) => (none, f))
set_option maxRecDepth 100000 in
set_option maxHeartbeats 1000000 in
theorem ctn_none (tx : Int → Int) (n f : Int) : ∀ st : List Fr, ctn tx n st (none, f) = (none, f)
  | [] => rfl
  | none :: st => ctn_none tx n f st
  | some none :: st => ctn_none tx n f st
  | some (some _) :: st => ctn_none tx n f st
set_option maxRecDepth 100000 in
set_option maxHeartbeats 1000000 in
theorem ctn_f {tx : Int → Int} {n p : Int} {st : List Fr} {m : Nat} (h : tok tx n p = 102) : ctn tx n (none :: st) (pT tx n m (skp tx n p + 1)) = ctn tx n st (pT tx n (m + 1) p) := by
  rw [pT_f h]; rfl
set_option maxRecDepth 100000 in
set_option maxHeartbeats 1000000 in
theorem ctn_g {tx : Int → Int} {n p : Int} {st : List Fr} {m : Nat} (hm : m = 3 - st.length) (h : tok tx n p = 103) : ctn tx n (some none :: st) (pT tx n m (skp tx n p + 1)) = ctn tx n st (pT tx n (m + 1) p) := by
  subst hm
  rw [pT_g h]; rfl
set_option maxRecDepth 100000 in
set_option maxHeartbeats 1000000 in
theorem ctn_gl {tx : Int → Int} {n p : Int} {st : List Fr} {a : Tm} : ctn tx n (some (some a) :: st) (pT tx n (3 - st.length) p) = ctn tx n (some none :: st) (some a, p) := rfl
def stS : List Fr → Tm → Prop
  | [], _ => False
  | none :: st, u => stS st u
  | some none :: st, u => stS st u
  | some (some l) :: st, u => sub u l ∨ stS st u
def SkOK (I : PIm) (tb : Int → Tm) (z : Int) : List Fr → Prop
  | [] => True
  | none :: st => I 132 (st.length : Int) = 4 ∧ SkOK I tb z st
  | some none :: st => (I 132 (st.length : Int) = 5 ∧ I 133 (st.length : Int) = -9) ∧ SkOK I tb z st
  | some (some l) :: st => (I 132 (st.length : Int) = 5 ∧ 0 ≤ I 133 (st.length : Int) ∧ I 133 (st.length : Int) < z ∧ tb (I 133 (st.length : Int)) = l) ∧ SkOK I tb z st
set_option maxRecDepth 100000 in
set_option maxHeartbeats 1000000 in
theorem SkOK.cg {I I' : PIm} {tb tb' : Int → Tm} {z z' : Int} (hz : z ≤ z') (ht : ∀ j, j < z → tb' j = tb j) : ∀ st : List Fr, SkOK I tb z st → (∀ k : Int, 0 ≤ k → k < (st.length : Int) → I' 132 k = I 132 k ∧ I' 133 k = I 133 k) → SkOK I' tb' z' st
  | [], _, _ => True.intro
  | none :: st, h, e => by
    have e0 := e st.length (by omega) (by rw [List.length_cons]; omega)
    exact ⟨by rw [e0.1]; exact h.1, SkOK.cg hz ht st h.2 (fun k k0 k1 => e k k0 (by rw [List.length_cons]; omega))⟩
  | some none :: st, h, e => by
    have e0 := e st.length (by omega) (by rw [List.length_cons]; omega)
    exact ⟨by rw [e0.1, e0.2]; exact h.1, SkOK.cg hz ht st h.2 (fun k k0 k1 => e k k0 (by rw [List.length_cons]; omega))⟩
  | some (some l) :: st, h, e => by
    have e0 := e st.length (by omega) (by rw [List.length_cons]; omega)
    obtain ⟨⟨h1, h2, h3, h4⟩, h5⟩ := h
    exact ⟨⟨by rw [e0.1]; exact h1, by rw [e0.2]; exact h2, by rw [e0.2]; omega, by rw [e0.2, ht _ h3]; exact h4⟩, SkOK.cg hz ht st h5 (fun k k0 k1 => e k k0 (by rw [List.length_cons]; omega))⟩
/-- the row of terms has grown by just these -/
def MGr (I0 I' : PIm) (tb0 tb' : Int → Tm) (S : Tm → Prop) : Prop := MTab I' (I' 112 13) tb' ∧ I0 112 13 ≤ I' 112 13 ∧ (∀ j, j < I0 112 13 → tb' j = tb0 j) ∧ (∀ j, 0 ≤ j → j < I' 112 13 → j < I0 112 13 ∨ S (tb' j)) ∧ ∀ u, S u → UT tb' (I' 112 13) u
set_option maxRecDepth 100000 in
set_option maxHeartbeats 1000000 in
theorem MGr.start {I : PIm} {tb : Int → Tm} {S : Tm → Prop} (T : MTab I (I 112 13) tb) (hS : ∀ u, ¬ S u) : MGr I I tb tb S := ⟨T, Int.le_refl _, fun _ _ => rfl, fun j _ h => Or.inl h, fun u h => absurd h (hS u)⟩
set_option maxRecDepth 100000 in
set_option maxHeartbeats 1000000 in
theorem MGr.iff {I0 I' : PIm} {tb0 tb' : Int → Tm} {S S' : Tm → Prop} (G : MGr I0 I' tb0 tb' S) (h : ∀ u, S' u ↔ S u) : MGr I0 I' tb0 tb' S' := by
  rw [show S' = S from funext fun u => propext (h u)]; exact G
set_option maxRecDepth 100000 in
set_option maxHeartbeats 1000000 in
theorem MGr.cg {I0 I1 I2 : PIm} {tb0 tb' : Int → Tm} {S : Tm → Prop} (G : MGr I0 I1 tb0 tb' S) (h : ∀ q z, (q = 112 ∧ z = 13) ∨ (122 ≤ q ∧ q ≤ 124) → I2 q z = I1 q z) : MGr I0 I2 tb0 tb' S := by
  have e := h 112 13 (by omega)
  unfold MGr at G ⊢
  rw [e]
  exact ⟨G.1.cg (fun q a b k _ _ => h q k (by omega)), G.2⟩
set_option maxRecDepth 100000 in
set_option maxHeartbeats 1000000 in
theorem MGr.left {I0 I0' I1 : PIm} {tb0 tb' : Int → Tm} {S : Tm → Prop} (G : MGr I0 I1 tb0 tb' S) (h : I0' 112 13 = I0 112 13) : MGr I0' I1 tb0 tb' S := by
  unfold MGr at G ⊢
  rw [h]; exact G
set_option maxRecDepth 100000 in
set_option maxHeartbeats 1000000 in
theorem MGr.made {I0 I1 I2 : PIm} {tb0 tb1 tb2 : Int → Tm} {S S' : Tm → Prop} {t : Tm} {i : Int} (G : MGr I0 I1 tb0 tb1 S) (m : MMade I1 I2 tb1 tb2 t i) (hS : ∀ u, S' u ↔ u = t ∨ S u) : MGr I0 I2 tb0 tb2 S' := by
  obtain ⟨g1, g2, g3, g4, g5⟩ := G
  obtain ⟨m1, m2, m3, m4, m5, m6, m7⟩ := m
  refine ⟨m3, by omega, fun j hj => by rw [m5 j (by omega), g3 j hj], fun j j0 j1 => ?_, fun u hu => ?_⟩
  · rcases m6 j j1 with q | q
    · rcases g4 j j0 q with w | w
      · exact Or.inl w
      · exact Or.inr ((hS _).mpr (Or.inr (by rw [m5 j q]; exact w)))
    · exact Or.inr ((hS _).mpr (Or.inl q))
  · rcases (hS u).mp hu with q | q
    · exact ⟨i, m1.1, m1.2, by rw [m2, q]⟩
    · obtain ⟨j, j0, j1, e⟩ := g5 u q
      exact ⟨j, j0, by omega, by rw [m5 j j1]; exact e⟩
set_option maxRecDepth 100000 in
set_option maxHeartbeats 1000000 in
theorem MGr.trans {I0 I1 I2 : PIm} {tb0 tb1 tb2 : Int → Tm} {S1 S2 S : Tm → Prop} (G1 : MGr I0 I1 tb0 tb1 S1) (G2 : MGr I1 I2 tb1 tb2 S2) (hS : ∀ u, S u ↔ S1 u ∨ S2 u) : MGr I0 I2 tb0 tb2 S := by
  obtain ⟨a1, a2, a3, a4, a5⟩ := G1
  obtain ⟨b1, b2, b3, b4, b5⟩ := G2
  refine ⟨b1, by omega, fun j hj => by rw [b3 j (by omega), a3 j hj], fun j j0 j1 => ?_, fun u hu => ?_⟩
  · rcases b4 j j0 j1 with q | q
    · rcases a4 j j0 q with w | w
      · exact Or.inl w
      · exact Or.inr ((hS _).mpr (Or.inl (by rw [b3 j q]; exact w)))
    · exact Or.inr ((hS _).mpr (Or.inr q))
  · rcases (hS u).mp hu with q | q
    · obtain ⟨j, j0, j1, e⟩ := a5 u q
      exact ⟨j, j0, by omega, by rw [b3 j j1]; exact e⟩
    · exact b5 u q
set_option maxRecDepth 100000 in
set_option maxHeartbeats 1000000 in
theorem MGr.ut {I0 I : PIm} {tb0 tb : Int → Tm} {S : Tm → Prop} (G : MGr I0 I tb0 tb S) (u : Tm) : UT tb (I 112 13) u ↔ UT tb0 (I0 112 13) u ∨ S u := by
  obtain ⟨g1, g2, g3, g4, g5⟩ := G
  constructor
  · rintro ⟨i, i0, i1, e⟩
    rcases g4 i i0 i1 with q | q
    · exact Or.inl ⟨i, i0, q, by rw [← g3 i q]; exact e⟩
    · exact Or.inr (by rw [← e]; exact q)
  · rintro (⟨i, i0, i1, e⟩ | q)
    · exact ⟨i, i0, by omega, by rw [g3 i i1]; exact e⟩
    · exact g5 u q
/-- behind a reading of a term by the reference -/
def MRTp (Γ : List PTy) (R : PRm) (I0 : PIm) (tb0 : Int → Tm) (res : Option Tm × Int) : PPost := fun v Γ' I' R' => Γ' = Γ ∧ R' = R ∧ (∀ q z, ¬ ((q = 112 ∧ (z = 13 ∨ z = 22 ∨ z = 23 ∨ z = 24)) ∨ (122 ≤ q ∧ q ≤ 124) ∨ q = 132 ∨ q = 133) → I' q z = I0 q z) ∧ (match res.1 with
  | some t => ∃ i tb', v = some (.inl i) ∧ (0 ≤ i ∧ i < I' 112 13 ∧ tb' i = t) ∧ I' 112 22 = res.2 ∧ MGr I0 I' tb0 tb' (fun u => sub u t) ∧ I' 112 13 ≤ 4 + res.2
  | none => v = some (.inl (-9)) ∧ I' 112 23 = res.2)
end MTAKES
