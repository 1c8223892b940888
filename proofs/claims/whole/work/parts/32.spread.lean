section SPREAD
variable {sc : PSc} {Γ : List PTy} {R : PRm}
def SpI (rt lf ch nx : Int → Int) (z i : Int) (L : Int → List Int) : Prop := ∀ k, 0 ≤ k → k < z → isCh nx (ch k) (L k) ∧ ((L k).length : Int) ≤ i ∧ ∀ e ∈ L k, 4 ≤ e ∧ e < i ∧ rt (lf e) = rt k
def SpN (rt hd lf rg : Int → Int) (z i : Int) (L : Int → List Int) : Prop := (∀ j, 4 ≤ j → j < i → ∃ m ∈ L (rt (lf j)), mtch hd rg rt m j ∧ rt m = rt j) ∧ ∀ k, 0 ≤ k → k < z → ∀ e ∈ L k, ∀ e' ∈ L k, mtch hd rg rt e e' → e = e'
set_option maxRecDepth 100000 in
set_option maxHeartbeats 1000000 in
theorem SpI.ins {rt lf ch nx ch' nx' : Int → Int} {z i : Int} {L : Int → List Int} (h : SpI rt lf ch nx z i L) (hr : RtOK rt z) (i4 : 4 ≤ i) (l0 : 0 ≤ lf i) (l1 : lf i < z) (hc : ∀ k, ch' k = if k = rt (lf i) then i else ch k) (hn : ∀ k, nx' k = if k = i then ch (rt (lf i)) else nx k) : SpI rt lf ch' nx' z (i + 1) (fun k => if k = rt (lf i) then i :: L k else L k) := by
  obtain ⟨r0, r1, r2⟩ := hr _ l0 l1
  intro k k0 k1
  obtain ⟨a, b, c⟩ := h k k0 k1
  have hch : isCh nx' (ch k) (L k) := a.congr _ _ (fun e he => by rw [hn, if_neg (by have := c e he; omega)])
  rw [hc]
  by_cases q : k = rt (lf i)
  · simp only [if_pos q]
    refine ⟨⟨rfl, ?_⟩, by rw [List.length_cons]; omega, fun e he => ?_⟩
    · rw [hn, if_pos rfl, ← q]
      exact hch
    · rcases List.mem_cons.mp he with rfl | he
      · exact ⟨i4, by omega, by rw [q, r2]⟩
      · have := c e he
        exact ⟨this.1, by omega, this.2.2⟩
  · simp only [if_neg q]
    exact ⟨hch, by omega, fun e he => by have := c e he; exact ⟨this.1, by omega, this.2.2⟩⟩
set_option maxRecDepth 100000 in
set_option maxHeartbeats 1000000 in
theorem SpN.ins {rt hd lf rg : Int → Int} {z i : Int} {L : Int → List Int} (h : SpN rt hd lf rg z i L) (hno : ∀ m ∈ L (rt (lf i)), ¬ mtch hd rg rt m i) : SpN rt hd lf rg z (i + 1) (fun k => if k = rt (lf i) then i :: L k else L k) := by
  refine ⟨fun j j4 j1 => ?_, fun k k0 k1 e he e' he' hm => ?_⟩
  · by_cases q : j = i
    · subst q
      exact ⟨j, by simp only [if_true]; exact List.mem_cons_self, ⟨rfl, rfl⟩, rfl⟩
    · obtain ⟨m, m1, m2, m3⟩ := h.1 j j4 (by omega)
      refine ⟨m, ?_, m2, m3⟩
      dsimp only
      split
      · exact List.mem_cons_of_mem _ m1
      · exact m1
  · dsimp only at he he'
    by_cases q : k = rt (lf i)
    · rw [if_pos q] at he he'
      rcases List.mem_cons.mp he with h1 | h1
      · rcases List.mem_cons.mp he' with h2 | h2
        · rw [h1, h2]
        · rw [h1] at hm
          exact absurd ⟨hm.1.symm, hm.2.symm⟩ (hno e' (by rw [← q]; exact h2))
      · rcases List.mem_cons.mp he' with h2 | h2
        · rw [h2] at hm
          exact absurd hm (hno e (by rw [← q]; exact h1))
        · exact h.2 k k0 k1 e h1 e' h2 hm
    · rw [if_neg q] at he he'
      exact h.2 k k0 k1 e he e' he' hm
set_option maxRecDepth 100000 in
set_option maxHeartbeats 1000000 in
theorem SpI.more {rt rt' lf ch nx : Int → Int} {z i : Int} {L : Int → List Int} (h : SpI rt lf ch nx z i L) (hr : ∀ e k, 4 ≤ e → e < i → 0 ≤ k → k < z → rt (lf e) = rt k → rt' (lf e) = rt' k) : SpI rt' lf ch nx z (i + 1) L := by
  intro k k0 k1
  obtain ⟨a, b, c⟩ := h k k0 k1
  exact ⟨a, by omega, fun e he => by have := c e he; exact ⟨this.1, by omega, hr e k this.1 this.2.1 k0 k1 this.2.2⟩⟩
set_option maxRecDepth 100000 in
set_option maxHeartbeats 1000000 in
theorem SpN.more {rt hd lf rg : Int → Int} {z i m : Int} {L : Int → List Int} (h : SpN rt hd lf rg z i L) (hm : m ∈ L (rt (lf i))) (h1 : mtch hd rg rt m i) (h2 : rt m = rt i) : SpN rt hd lf rg z (i + 1) L := by
  refine ⟨fun j j4 j1 => ?_, h.2⟩
  by_cases q : j = i
  · subst q
    exact ⟨m, hm, h1, h2⟩
  · exact h.1 j j4 (by omega)
set_option maxRecDepth 100000 in
set_option maxHeartbeats 1000000 in
theorem Tab.fpart {I : PIm} {h : Nat} {z : Int} {tb : Int → Tm} (T : Tab I h z tb) {i l : Int} (i0 : 0 ≤ i) (i1 : i < z) (l0 : 0 ≤ l) (l1 : l < z) (e : tb i = tf (tb l)) : 4 ≤ i ∧ I (h + 1) i = 4 ∧ I (h + 2) i = l ∧ I (h + 3) i = l := by
  obtain ⟨r1, r2, -⟩ := T.row i0 i1
  by_cases q : i < 4
  · rw [(r1 q).2.1] at e
    exact absurd e tc_tf
  · obtain ⟨⟨q1, q2, q3, q4⟩, w⟩ := r2 (by omega)
    rcases w with ⟨w1, w2, w3⟩ | ⟨w1, w3⟩
    · rw [w3] at e
      have := T.2.2 _ _ q1 (by omega) l0 l1 (tf_inj e)
      exact ⟨by omega, w1, this, by rw [w2]; exact this⟩
    · rw [w3] at e
      exact absurd e.symm tf_tg
set_option maxRecDepth 100000 in
set_option maxHeartbeats 1000000 in
theorem Tab.gpart {I : PIm} {h : Nat} {z : Int} {tb : Int → Tm} (T : Tab I h z tb) {i l r : Int} (i0 : 0 ≤ i) (i1 : i < z) (l0 : 0 ≤ l) (l1 : l < z) (r0 : 0 ≤ r) (r1' : r < z) (e : tb i = tg (tb l) (tb r)) : 4 ≤ i ∧ I (h + 1) i = 5 ∧ I (h + 2) i = l ∧ I (h + 3) i = r := by
  obtain ⟨r1, r2, -⟩ := T.row i0 i1
  by_cases q : i < 4
  · rw [(r1 q).2.1] at e
    exact absurd e tc_tg
  · obtain ⟨⟨q1, q2, q3, q4⟩, w⟩ := r2 (by omega)
    rcases w with ⟨w1, w2, w3⟩ | ⟨w1, w3⟩
    · rw [w3] at e
      exact absurd e tf_tg
    · rw [w3] at e
      obtain ⟨e1, e2⟩ := tg_inj e
      exact ⟨by omega, w1, T.2.2 _ _ q1 (by omega) l0 l1 e1, T.2.2 _ _ q3 (by omega) r0 r1' e2⟩
set_option maxRecDepth 100000 in
set_option maxHeartbeats 1000000 in
theorem Tab.ptab {I : PIm} {h : Nat} {z : Int} {tb : Int → Tm} (T : Tab I h z tb) : PTab tb z := by
  refine ⟨T.2.2, fun i a i0 i1 e => ?_, fun i a b i0 i1 e => ?_⟩
  · obtain ⟨r1, r2, -⟩ := T.row i0 i1
    by_cases q : i < 4
    · rw [(r1 q).2.1] at e
      exact absurd e tc_tf
    · obtain ⟨⟨q1, q2, q3, q4⟩, w⟩ := r2 (by omega)
      rcases w with ⟨w1, w2, w3⟩ | ⟨w1, w3⟩
      · rw [w3] at e
        exact ⟨_, q1, by omega, tf_inj e⟩
      · rw [w3] at e
        exact absurd e.symm tf_tg
  · obtain ⟨r1, r2, -⟩ := T.row i0 i1
    by_cases q : i < 4
    · rw [(r1 q).2.1] at e
      exact absurd e tc_tg
    · obtain ⟨⟨q1, q2, q3, q4⟩, w⟩ := r2 (by omega)
      rcases w with ⟨w1, w2, w3⟩ | ⟨w1, w3⟩
      · rw [w3] at e
        exact absurd e tf_tg
      · rw [w3] at e
        obtain ⟨e1, e2⟩ := tg_inj e
        exact ⟨⟨_, q1, by omega, e1⟩, _, q3, by omega, e2⟩
set_option maxRecDepth 100000 in
set_option maxHeartbeats 1000000 in
theorem SpN.closed {I : PIm} {rt : Int → Int} {h : Nat} {z : Int} {tb : Int → Tm} {L : Int → List Int} (T : Tab I h z tb) (hr : RtOK rt z) (hN : SpN rt (I (h + 1)) (I (h + 2)) (I (h + 3)) z z L) : RtC rt z tb := by
  have key : ∀ i j, 4 ≤ i → i < z → 4 ≤ j → j < z → I (h + 1) i = I (h + 1) j → rt (I (h + 2) i) = rt (I (h + 2) j) → rt (I (h + 3) i) = rt (I (h + 3) j) → rt i = rt j := by
    intro i j i4 i1 j4 j1 e1 e2 e3
    obtain ⟨m, m1, m2, m3⟩ := hN.1 i i4 i1
    obtain ⟨m', m1', m2', m3'⟩ := hN.1 j j4 j1
    have hl := T.hd (i := i) (by omega) i1
    obtain ⟨a, b, -⟩ := hr (I (h + 2) i) hl.2.1.1 (by omega)
    rw [← e2] at m1'
    have := hN.2 _ a b m m1 m' m1' ⟨by rw [m2.1, e1, ← m2'.1], by rw [m2.2, e3, ← m2'.2]⟩
    subst this
    rw [← m3, m3']
  refine ⟨fun i j l m i0 i1 j0 j1 l0 l1 m0 m1 e1 e2 e3 => ?_, fun i j l m l' m' i0 i1 j0 j1 l0 l1 m0 m1 l0' l1' m0' m1' e1 e2 e3 e4 => ?_⟩
  · obtain ⟨a1, a2, a3, a4⟩ := T.fpart i0 i1 l0 l1 e1
    obtain ⟨b1, b2, b3, b4⟩ := T.fpart j0 j1 m0 m1 e2
    exact key i j a1 i1 b1 j1 (by rw [a2, b2]) (by rw [a3, b3]; exact e3) (by rw [a4, b4]; exact e3)
  · obtain ⟨a1, a2, a3, a4⟩ := T.gpart i0 i1 l0 l1 l0' l1' e1
    obtain ⟨b1, b2, b3, b4⟩ := T.gpart j0 j1 m0 m1 m0' m1' e2
    exact key i j a1 i1 b1 j1 (by rw [a2, b2]) (by rw [a3, b3]; exact e3) (by rw [a4, b4]; exact e4)
set_option maxRecDepth 100000 in
set_option maxHeartbeats 1000000 in
/-- two that match are the same -/
theorem Tab.mt {I : PIm} {h : Nat} {z : Int} {tb : Int → Tm} {rt : Int → Int} (T : Tab I h z tb) {m i : Int} (m4 : 4 ≤ m) (m1 : m < z) (i4 : 4 ≤ i) (i1 : i < z) (e1 : I (h + 1) m = I (h + 1) i) (e2 : rt (I (h + 2) m) = rt (I (h + 2) i)) (e3 : rt (I (h + 3) m) = rt (I (h + 3) i)) : ∀ C, CCong (UT tb z) C → RtS rt z tb C → C (tb m) (tb i) := by
  intro C hC hS
  obtain ⟨-, r2, -⟩ := T.row (i := m) (by omega) m1
  obtain ⟨-, s2, -⟩ := T.row (i := i) (by omega) i1
  obtain ⟨⟨q1, q2, q3, q4⟩, w⟩ := r2 m4
  obtain ⟨⟨p1, p2, p3, p4⟩, v⟩ := s2 i4
  have c1 := hS _ _ q1 (by omega) p1 (by omega) e2
  have c2 := hS _ _ q3 (by omega) p3 (by omega) e3
  have um : UT tb z (tb m) := ⟨m, by omega, m1, rfl⟩
  have ui : UT tb z (tb i) := ⟨i, by omega, i1, rfl⟩
  rcases w with ⟨w1, w2, w3⟩ | ⟨w1, w3⟩ <;> rcases v with ⟨v1, v2, v3⟩ | ⟨v1, v3⟩
  · rw [w3] at um ⊢
    rw [v3] at ui ⊢
    exact hC.2.2.2.1 _ _ um ui c1
  · omega
  · omega
  · rw [w3] at um ⊢
    rw [v3] at ui ⊢
    exact hC.2.2.2.2 _ _ _ _ um ui c1 c2
set_option maxRecDepth 100000 in
set_option maxHeartbeats 1000000 in
theorem c_X1_spreadOnce (d : Nat) {I0 : PIm} {c h N0 zn : Nat} {tb : Int → Tm} (K : ClosAt Γ R c) (hT : I0 h 5 = zn) (T : TermsAt Γ R h N0) (hz : I0 c 3 = zn) (TB : Tab I0 h zn tb) (hN : zn ≤ N0) (hz2 : zn ≤ 116) (hr : RtOK (I0 (c + 1)) zn) (hdj : c + 3 < h ∨ h + 5 < c) :
    PC sc mX1_spreadOnce (d + 3) 0 0 [.inr (some c), .inr (some h)] Γ I0 R (fun v Γ' I' R' => Γ' = Γ ∧ R' = R ∧ (∀ q z, ¬ (c + 1 ≤ q ∧ q ≤ c + 3) → I' q z = I0 q z) ∧ Prog (I0 (c + 1)) (I' (c + 1)) zn tb ∧ ((v = some (.inl 0) ∧ RtC (I' (c + 1)) zn tb) ∨ (v = some (.inl 1) ∧ cnt (I' (c + 1)) zn < cnt (I0 (c + 1)) zn))) := by
  obtain ⟨k0, k1, k2, k3, k4, k5, k6⟩ := id K
  obtain ⟨t0, t1, t2, t3, t4, t5, t6, t7, t8, t9, t10, t11⟩ := id T
  have h4 := TB.1
  have loop : ∀ (N : Nat) (i g : Int) (I : PIm) (L : Int → List Int) (o3 o4 : Option PV), ((zn : Int) - i).toNat = N → 4 ≤ i → i ≤ zn → (∀ q z, ¬ (c + 1 ≤ q ∧ q ≤ c + 3) → I q z = I0 q z) → Prog (I0 (c + 1)) (I (c + 1)) zn tb → SpI (I (c + 1)) (I0 (h + 2)) (I (c + 2)) (I (c + 3)) zn i L → ((g = 0 ∧ SpN (I (c + 1)) (I0 (h + 1)) (I0 (h + 2)) (I0 (h + 3)) zn i L ∧ ∀ j : Int, 0 ≤ j → j < zn → I (c + 1) j = I0 (c + 1) j) ∨ (g = 1 ∧ cnt (I (c + 1)) zn < cnt (I0 (c + 1)) zn)) → PW sc mX1_spreadOnce (d + 3) 0 0 (fun v Γ' I' R' => Γ' = Γ ∧ R' = R ∧ (∀ q z, ¬ (c + 1 ≤ q ∧ q ≤ c + 3) → I' q z = I0 q z) ∧ Prog (I0 (c + 1)) (I' (c + 1)) zn tb ∧ ((v = some (.inl 0) ∧ RtC (I' (c + 1)) zn tb) ∨ (v = some (.inl 1) ∧ cnt (I' (c + 1)) zn < cnt (I0 (c + 1)) zn))) 12 [some (.inr (some c)), some (.inr (some h)), some (.inl g), some (.inl i), o3, o4] [] Γ I R := by
    intro N
    induction N using Nat.strongRecOn with
    | _ N ih =>
      intro i g I L o3 o4 hNn i4 i1 fr PG SI SG
      have ez : I c 3 = zn := by rw [fr c 3 (by omega)]; exact hz
      have eh : ∀ q, h ≤ q → q ≤ h + 5 → ∀ k, I q k = I0 q k := fun q a b k => fr q k (by omega)
      have hrt := PG.1
      by_cases hlt : i < zn
      · have hdi := TB.hd (i := i) (by omega) hlt
        have rl := hrt _ hdi.2.1.1 (by omega)
        obtain ⟨s1, s2, s3⟩ := SI _ rl.1 rl.2.1
        have TBI : Tab I h (I c 3) tb := by rw [ez]; exact TB.congr eh
        have ri := hrt i (by omega) hlt
        have el := eh (h + 2) (by omega) (by omega) i
        have found : ∀ (o4 : Option PV) (m : Int), m ∈ L (I (c + 1) (I0 (h + 2) i)) → mtch (I0 (h + 1)) (I0 (h + 3)) (I (c + 1)) m i → PW sc mX1_spreadOnce (d + 3) 0 0 (fun v Γ' I' R' => Γ' = Γ ∧ R' = R ∧ (∀ q z, ¬ (c + 1 ≤ q ∧ q ≤ c + 3) → I' q z = I0 q z) ∧ Prog (I0 (c + 1)) (I' (c + 1)) zn tb ∧ ((v = some (.inl 0) ∧ RtC (I' (c + 1)) zn tb) ∨ (v = some (.inl 1) ∧ cnt (I' (c + 1)) zn < cnt (I0 (c + 1)) zn))) 65 [some (.inr (some c)), some (.inr (some h)), some (.inl g), some (.inl i), some (.inl (I (c + 1) (I0 (h + 2) i))), o4] [.inl m] Γ I R := by
          intro o4 m hm hmt
          have hm3 := s3 m hm
          have rm := hrt m (by omega) (by omega)
          have er : I (c + 1) (I0 (h + 2) m) = I (c + 1) (I0 (h + 2) i) := by rw [hm3.2.2, rl.2.2]
          by_cases hq : I (c + 1) m = I (c + 1) i
          · have SI2 := SI.more (rt' := I (c + 1)) (fun e k _ _ _ _ q => q)
            have SG2 : (g = 0 ∧ SpN (I (c + 1)) (I0 (h + 1)) (I0 (h + 2)) (I0 (h + 3)) zn (i + 1) L ∧ ∀ j : Int, 0 ≤ j → j < zn → I (c + 1) j = I0 (c + 1) j) ∨ (g = 1 ∧ cnt (I (c + 1)) zn < cnt (I0 (c + 1)) zn) := by
              rcases SG with ⟨a, b, e⟩ | a
              · exact Or.inl ⟨a, b.more hm hmt hq, e⟩
              · exact Or.inr a
            refine PW.istore (pc := 65) dX1_spreadOnce_65 (by decide) ?_
            refine PW.iload (pc := 67) dX1_spreadOnce_67 rfl ?_
            refine PW.iconst (pc := 69) dX1_spreadOnce_69 ?_
            refine PW.icmp_ne (pc := 70) (tgt := 97) dX1_spreadOnce_70 (by decide) (by first | omega | exact rg_of _) (by first | omega | exact rg_of _) (fun c_70 => ?_) (fun c_70 => ?_)
            · refine PW.aload_n (pc := 97) dX1_spreadOnce_97 rfl ?_
              refine PW.iload (pc := 98) dX1_spreadOnce_98 rfl ?_
              refine PW.invV0x (pc := 100) dX1_spreadOnce_100 mv_X1_62 (c_X1_rootOf _ K (by omega) (by omega)) (by first | assumption | rfl) rfl rfl (Nat.le_of_ble_eq_true rfl) ?_
              refine PW.aload_n (pc := 103) dX1_spreadOnce_103 rfl ?_
              refine PW.getr (pc := 104) dX1_spreadOnce_104 fl_X1_9 (by first | assumption | rfl) (by first | assumption | rfl) ?_
              refine PW.iload_n (pc := 107) dX1_spreadOnce_107 rfl ?_
              refine PW.iald (pc := 108) dX1_spreadOnce_108 (by first | assumption | rfl) (by omega) (by omega) (by omega) ?_
              refine PW.icmp_eq (pc := 109) (tgt := 121) dX1_spreadOnce_109 (by decide) (by first | omega | exact rg_of _) (by first | omega | exact rg_of _) (fun c_109 => ?_) (fun c_109 => ?_)
              · refine PW.iinc (pc := 121) dX1_spreadOnce_121 rfl (by decide) ?_
                refine PW.goto (pc := 124) (tgt := 12) dX1_spreadOnce_124 (by decide) ?_
                exact ih _ (by omega) (i + 1) g I L _ _ rfl (by omega) (by omega) fr PG SI2 SG2
              · exact absurd hq c_109
            · omega
          · have PM := Prog.mrg (tb := tb) hrt (by omega) (show m < zn by omega) (show 0 ≤ i by omega) hlt (TB.mt (by omega) (by omega) i4 hlt hmt.1 er hmt.2)
            have hcn := mrg_cnt hrt (by omega) (show m < zn by omega) (show 0 ≤ i by omega) hlt hq
            have hle : cnt (I (c + 1)) zn ≤ cnt (I0 (c + 1)) zn := by
              rcases SG with ⟨-, -, e⟩ | ⟨-, a⟩
              · rw [cnt_congr zn e]
                exact Nat.le_refl _
              · omega
            refine PW.istore (pc := 65) dX1_spreadOnce_65 (by decide) ?_
            refine PW.iload (pc := 67) dX1_spreadOnce_67 rfl ?_
            refine PW.iconst (pc := 69) dX1_spreadOnce_69 ?_
            refine PW.icmp_ne (pc := 70) (tgt := 97) dX1_spreadOnce_70 (by decide) (by first | omega | exact rg_of _) (by first | omega | exact rg_of _) (fun c_70 => ?_) (fun c_70 => ?_)
            · refine PW.aload_n (pc := 97) dX1_spreadOnce_97 rfl ?_
              refine PW.iload (pc := 98) dX1_spreadOnce_98 rfl ?_
              refine PW.invV0x (pc := 100) dX1_spreadOnce_100 mv_X1_62 (c_X1_rootOf _ K (by omega) (by omega)) (by first | assumption | rfl) rfl rfl (Nat.le_of_ble_eq_true rfl) ?_
              refine PW.aload_n (pc := 103) dX1_spreadOnce_103 rfl ?_
              refine PW.getr (pc := 104) dX1_spreadOnce_104 fl_X1_9 (by first | assumption | rfl) (by first | assumption | rfl) ?_
              refine PW.iload_n (pc := 107) dX1_spreadOnce_107 rfl ?_
              refine PW.iald (pc := 108) dX1_spreadOnce_108 (by first | assumption | rfl) (by omega) (by omega) (by omega) ?_
              refine PW.icmp_eq (pc := 109) (tgt := 121) dX1_spreadOnce_109 (by decide) (by first | omega | exact rg_of _) (by first | omega | exact rg_of _) (fun c_109 => ?_) (fun c_109 => ?_)
              · exact absurd c_109 hq
              · refine PW.aload_n (pc := 112) dX1_spreadOnce_112 rfl ?_
                refine PW.iload (pc := 113) dX1_spreadOnce_113 rfl ?_
                refine PW.iload_n (pc := 115) dX1_spreadOnce_115 rfl ?_
                refine PW.invV0 (pc := 116) dX1_spreadOnce_116 mv_X1_54 (c_X1_merge _ K (by omega) (by rw [ez]; exact hrt) (by omega) (by omega)) (by first | assumption | rfl) rfl rfl (Nat.le_of_ble_eq_true rfl) ?_
                (rintro v Γ' I' R' ⟨rfl, rfl, rfl, m1, m2⟩)
                rw [ez] at m2
                refine PW.iconst (pc := 119) dX1_spreadOnce_119 ?_
                refine PW.istore_n (pc := 120) dX1_spreadOnce_120 (by decide) ?_
                refine PW.iinc (pc := 121) dX1_spreadOnce_121 rfl (by decide) ?_
                refine PW.goto (pc := 124) (tgt := 12) dX1_spreadOnce_124 (by decide) ?_
                exact ih _ (by omega) (i + 1) 1 I' L _ _ rfl (by omega) (by omega) (fun q z hq => by rw [m1 q z (by omega), fr q z hq]) (PG.tr (PM.congr m2)) (by
                have e2 : I' (c + 2) = I (c + 2) := funext (fun z => m1 _ z (by omega))
                have e3 : I' (c + 3) = I (c + 3) := funext (fun z => m1 _ z (by omega))
                rw [e2, e3]
                exact SI.more (fun e k e4 e1 k0 k1 q => by have := TB.hd (i := e) (by omega) (by omega); exact (PM.congr m2).2.1 _ _ this.2.1.1 (by omega) k0 k1 q)) (Or.inr ⟨rfl, by rw [cnt_congr zn m2]; omega⟩)
            · omega
        have nofnd : ∀ (o4 : Option PV), (∀ m ∈ L (I (c + 1) (I0 (h + 2) i)), ¬ mtch (I0 (h + 1)) (I0 (h + 3)) (I (c + 1)) m i) → PW sc mX1_spreadOnce (d + 3) 0 0 (fun v Γ' I' R' => Γ' = Γ ∧ R' = R ∧ (∀ q z, ¬ (c + 1 ≤ q ∧ q ≤ c + 3) → I' q z = I0 q z) ∧ Prog (I0 (c + 1)) (I' (c + 1)) zn tb ∧ ((v = some (.inl 0) ∧ RtC (I' (c + 1)) zn tb) ∨ (v = some (.inl 1) ∧ cnt (I' (c + 1)) zn < cnt (I0 (c + 1)) zn))) 65 [some (.inr (some c)), some (.inr (some h)), some (.inl g), some (.inl i), some (.inl (I (c + 1) (I0 (h + 2) i))), o4] [.inl (-1)] Γ I R := by
          intro o4 hno
          have SG2 : (g = 0 ∧ SpN (I (c + 1)) (I0 (h + 1)) (I0 (h + 2)) (I0 (h + 3)) zn (i + 1) (fun k => if k = I (c + 1) (I0 (h + 2) i) then i :: L k else L k) ∧ ∀ j : Int, 0 ≤ j → j < zn → I (c + 1) j = I0 (c + 1) j) ∨ (g = 1 ∧ cnt (I (c + 1)) zn < cnt (I0 (c + 1)) zn) := by
            rcases SG with ⟨a, b, e⟩ | a
            · exact Or.inl ⟨a, b.ins hno, e⟩
            · exact Or.inr a
          refine PW.istore (pc := 65) dX1_spreadOnce_65 (by decide) ?_
          refine PW.iload (pc := 67) dX1_spreadOnce_67 rfl ?_
          refine PW.iconst (pc := 69) dX1_spreadOnce_69 ?_
          refine PW.icmp_ne (pc := 70) (tgt := 97) dX1_spreadOnce_70 (by decide) (by first | omega | exact rg_of _) (by first | omega | exact rg_of _) (fun c_70 => ?_) (fun c_70 => ?_)
          · exact absurd rfl c_70
          · refine PW.aload_n (pc := 73) dX1_spreadOnce_73 rfl ?_
            refine PW.getr (pc := 74) dX1_spreadOnce_74 fl_X1_18 (by first | assumption | rfl) (by first | assumption | rfl) ?_
            refine PW.iload_n (pc := 77) dX1_spreadOnce_77 rfl ?_
            refine PW.aload_n (pc := 78) dX1_spreadOnce_78 rfl ?_
            refine PW.getr (pc := 79) dX1_spreadOnce_79 fl_X1_15 (by first | assumption | rfl) (by first | assumption | rfl) ?_
            refine PW.iload (pc := 82) dX1_spreadOnce_82 rfl ?_
            refine PW.iald (pc := 84) dX1_spreadOnce_84 (by first | assumption | rfl) (by omega) (by omega) (by omega) ?_
            refine PW.iast (pc := 85) dX1_spreadOnce_85 (by first | assumption | rfl) (by omega) (by omega) (by omega) ?_
            refine PW.aload_n (pc := 86) dX1_spreadOnce_86 rfl ?_
            refine PW.getr (pc := 87) dX1_spreadOnce_87 fl_X1_15 (by first | assumption | rfl) (by first | assumption | rfl) ?_
            refine PW.iload (pc := 90) dX1_spreadOnce_90 rfl ?_
            refine PW.iload_n (pc := 92) dX1_spreadOnce_92 rfl ?_
            refine PW.iast (pc := 93) dX1_spreadOnce_93 (by first | assumption | rfl) (by omega) (by omega) (by omega) ?_
            refine PW.goto (pc := 94) (tgt := 121) dX1_spreadOnce_94 (by decide) ?_
            refine PW.iinc (pc := 121) dX1_spreadOnce_121 rfl (by decide) ?_
            refine PW.goto (pc := 124) (tgt := 12) dX1_spreadOnce_124 (by decide) ?_
            exact ih _ (by omega) (i + 1) g _ _ _ _ rfl (by omega) (by omega) (fun q z hq => by rw [pw_up_other (by omega), pw_up_other (by omega), fr q z hq]) (PG.congr (fun j _ _ => by rw [pw_up_other (by omega), pw_up_other (by omega)])) (by
            have e1 : pw_up (pw_up I (c + 3) i (I (c + 2) (I (c + 1) (I0 (h + 2) i)))) (c + 2) (I (c + 1) (I0 (h + 2) i)) i (c + 1) = I (c + 1) := funext (fun z => by rw [pw_up_other (by omega), pw_up_other (by omega)])
            rw [e1]
            exact SI.ins hrt i4 hdi.2.1.1 (by omega) (fun k => by by_cases q : k = I (c + 1) (I0 (h + 2) i); (· rw [if_pos q, q, pw_up_self]); (· rw [if_neg q, pw_up_other (by omega), pw_up_other (by omega)])) (fun k => by by_cases q : k = i; (· rw [if_pos q, q, pw_up_other (by omega), pw_up_self]); (· rw [if_neg q, pw_up_other (by omega), pw_up_other (by omega)]))) (by
            have e1 : pw_up (pw_up I (c + 3) i (I (c + 2) (I (c + 1) (I0 (h + 2) i)))) (c + 2) (I (c + 1) (I0 (h + 2) i)) i (c + 1) = I (c + 1) := funext (fun z => by rw [pw_up_other (by omega), pw_up_other (by omega)])
            rw [e1]
            exact SG2)
        have f1 : I (h + 1) = I0 (h + 1) := funext (eh (h + 1) (by omega) (by omega))
        have f3 : I (h + 3) = I0 (h + 3) := funext (eh (h + 3) (by omega) (by omega))
        have ht5 : I h 5 = zn := by rw [eh h (by omega) (by omega)]; exact hT
        refine PW.iload_n (pc := 12) dX1_spreadOnce_12 rfl ?_
        refine PW.aload_n (pc := 13) dX1_spreadOnce_13 rfl ?_
        refine PW.geti (pc := 14) dX1_spreadOnce_14 fl_X1_39 (by decide) (by first | assumption | rfl) ?_
        rw [ez]
        refine PW.icmp_ge (pc := 17) (tgt := 127) dX1_spreadOnce_17 (by decide) (by first | omega | exact rg_of _) (by first | omega | exact rg_of _) (fun c_17 => ?_) (fun c_17 => ?_)
        · omega
        · refine PW.iload_n (pc := 20) dX1_spreadOnce_20 rfl ?_
          refine PW.bipush (pc := 21) dX1_spreadOnce_21 (by decide) ?_
          refine PW.icmp_ge (pc := 23) (tgt := 127) dX1_spreadOnce_23 (by decide) (by first | omega | exact rg_of _) (by first | omega | exact rg_of _) (fun c_23 => ?_) (fun c_23 => ?_)
          · omega
          · refine PW.aload_n (pc := 26) dX1_spreadOnce_26 rfl ?_
            refine PW.aload_n (pc := 27) dX1_spreadOnce_27 rfl ?_
            refine PW.iload_n (pc := 28) dX1_spreadOnce_28 rfl ?_
            refine PW.invV0x (pc := 29) dX1_spreadOnce_29 mv_X1_79 (c_X8_leftOf _ T (by omega) (by omega) (by omega)) (by first | assumption | rfl) rfl rfl (Nat.le_of_ble_eq_true rfl) ?_
            rw [el]
            refine PW.invV0x (pc := 32) dX1_spreadOnce_32 mv_X1_62 (c_X1_rootOf _ K (by omega) (by omega)) (by first | assumption | rfl) rfl rfl (Nat.le_of_ble_eq_true rfl) ?_
            refine PW.istore (pc := 35) dX1_spreadOnce_35 (by decide) ?_
            refine PW.iload (pc := 37) dX1_spreadOnce_37 rfl ?_
            refine PW.if_lt (pc := 39) (tgt := 121) dX1_spreadOnce_39 (by decide) (by first | omega | exact rg_of _) (fun c_39 => ?_) (fun c_39 => ?_)
            · omega
            · refine PW.iload (pc := 42) dX1_spreadOnce_42 rfl ?_
              refine PW.bipush (pc := 44) dX1_spreadOnce_44 (by decide) ?_
              refine PW.icmp_lt (pc := 46) (tgt := 52) dX1_spreadOnce_46 (by decide) (by first | omega | exact rg_of _) (by first | omega | exact rg_of _) (fun c_46 => ?_) (fun c_46 => ?_)
              · refine PW.aload_n (pc := 52) dX1_spreadOnce_52 rfl ?_
                refine PW.aload_n (pc := 53) dX1_spreadOnce_53 rfl ?_
                refine PW.iload_n (pc := 54) dX1_spreadOnce_54 rfl ?_
                refine PW.aload_n (pc := 55) dX1_spreadOnce_55 rfl ?_
                refine PW.getr (pc := 56) dX1_spreadOnce_56 fl_X1_15 (by first | assumption | rfl) (by first | assumption | rfl) ?_
                refine PW.iload (pc := 59) dX1_spreadOnce_59 rfl ?_
                refine PW.iald (pc := 61) dX1_spreadOnce_61 (by first | assumption | rfl) (by omega) (by omega) (by omega) ?_
                refine PW.invV0 (pc := 62) dX1_spreadOnce_62 mv_X1_82 (c_X1_findMatch _ K (by omega) T TBI (by omega) (by omega) (by rw [ez]; exact hrt) (by omega) s1 (fun e he => by have := s3 e he; omega) (by omega)) (by first | assumption | rfl) rfl rfl (Nat.le_of_ble_eq_true rfl) ?_
                (rintro v Γ' I' R' ⟨rfl, rfl, rfl, (⟨m, hm, rfl, hmt⟩ | ⟨rfl, hno⟩)⟩)
                · rw [f1, f3] at hmt
                  exact found _ m hm hmt
                · rw [f1, f3] at hno
                  exact nofnd _ hno
              · omega
      · obtain rfl : i = zn := by omega
        refine PW.iload_n (pc := 12) dX1_spreadOnce_12 rfl ?_
        refine PW.aload_n (pc := 13) dX1_spreadOnce_13 rfl ?_
        refine PW.geti (pc := 14) dX1_spreadOnce_14 fl_X1_39 (by decide) (by first | assumption | rfl) ?_
        rw [ez]
        refine PW.icmp_ge (pc := 17) (tgt := 127) dX1_spreadOnce_17 (by decide) (by first | omega | exact rg_of _) (by first | omega | exact rg_of _) (fun c_17 => ?_) (fun c_17 => ?_)
        · refine PW.iload_n (pc := 127) dX1_spreadOnce_127 rfl ?_
          exact PW.zreturn (pc := 128) dX1_spreadOnce_128 rfl (by rcases SG with ⟨a, -⟩ | ⟨a, -⟩ <;> omega) (⟨rfl, rfl, fr, PG, by
          rcases SG with ⟨rfl, b, e⟩ | ⟨rfl, b⟩
          · exact Or.inl ⟨rfl, SpN.closed TB hrt b⟩
          · exact Or.inr ⟨rfl, b⟩⟩)
        · omega
  refine PC.ofPW (by decide) (Nat.le_of_ble_eq_true rfl) ?_
  refine PW.iconst (pc := 0) dX1_spreadOnce_0 ?_
  refine PW.istore_n (pc := 1) dX1_spreadOnce_1 (by decide) ?_
  refine PW.aload_n (pc := 2) dX1_spreadOnce_2 rfl ?_
  refine PW.getr (pc := 3) dX1_spreadOnce_3 fl_X1_15 (by first | assumption | rfl) (by first | assumption | rfl) ?_
  refine PW.iconst (pc := 6) dX1_spreadOnce_6 ?_
  refine PW.invS0 (pc := 7) dX1_spreadOnce_7 ms_X1_73 (c_fill _ k5 (by omega)) rfl rfl (Nat.le_of_ble_eq_true rfl) ?_
  (rintro v Γ' I' R' ⟨rfl, rfl, rfl, m1, m2⟩)
  refine PW.iconst (pc := 10) dX1_spreadOnce_10 ?_
  refine PW.istore_n (pc := 11) dX1_spreadOnce_11 (by decide) ?_
  exact loop _ 4 0 I' (fun _ => []) _ _ rfl (by omega) (by omega) (fun q z hq => m1 q z (by omega)) ((Prog.rf hr).congr (fun j _ _ => m1 _ _ (by omega))) (fun k k0' k1' => ⟨m2 k k0' (by omega), by simp, fun e he => by cases he⟩) (Or.inl ⟨rfl, ⟨fun j j4 j1 => by omega, fun k _ _ e he => by cases he⟩, fun j _ _ => m1 _ _ (by omega)⟩)
set_option maxRecDepth 100000 in
set_option maxHeartbeats 1000000 in
theorem c_X1_spread (d : Nat) {I0 : PIm} {c h N0 zn : Nat} {tb : Int → Tm} (K : ClosAt Γ R c) (hT : I0 h 5 = zn) (T : TermsAt Γ R h N0) (hz : I0 c 3 = zn) (TB : Tab I0 h zn tb) (hN : zn ≤ N0) (hz2 : zn ≤ 116) (hr : RtOK (I0 (c + 1)) zn) (hdj : c + 3 < h ∨ h + 5 < c) :
    PC sc mX1_spread (d + 4) 0 0 [.inr (some c), .inr (some h)] Γ I0 R (fun v Γ' I' R' => v = none ∧ Γ' = Γ ∧ R' = R ∧ (∀ q z, ¬ (c + 1 ≤ q ∧ q ≤ c + 3) → I' q z = I0 q z) ∧ Prog (I0 (c + 1)) (I' (c + 1)) zn tb ∧ RtC (I' (c + 1)) zn tb) := by
  obtain ⟨k0, k1, k2, k3, k4, k5, k6⟩ := id K
  have loop : ∀ (N : Nat) (p g : Int) (I : PIm), (117 - p).toNat = N → 0 ≤ p → p ≤ 117 → (∀ q z, ¬ (c + 1 ≤ q ∧ q ≤ c + 3) → I q z = I0 q z) → Prog (I0 (c + 1)) (I (c + 1)) zn tb → ((g = 0 ∧ RtC (I (c + 1)) zn tb) ∨ (g = 1 ∧ (cnt (I (c + 1)) zn : Int) + p ≤ 116)) → PW sc mX1_spread (d + 4) 0 0 (fun v Γ' I' R' => v = none ∧ Γ' = Γ ∧ R' = R ∧ (∀ q z, ¬ (c + 1 ≤ q ∧ q ≤ c + 3) → I' q z = I0 q z) ∧ Prog (I0 (c + 1)) (I' (c + 1)) zn tb ∧ RtC (I' (c + 1)) zn tb) 4 [some (.inr (some c)), some (.inr (some h)), some (.inl g), some (.inl p)] [] Γ I R := by
    intro N
    induction N using Nat.strongRecOn with
    | _ N ih =>
      intro p g I hNn p0 p1 fr PG SG
      have ez : I c 3 = zn := by rw [fr c 3 (by omega)]; exact hz
      have TBI : Tab I h zn tb := TB.congr (fun q a b k => fr q k (by omega))
      have hTI : I h 5 = zn := by rw [fr h 5 (by omega)]; exact hT
      rcases SG with ⟨rfl, b⟩ | ⟨rfl, b⟩
      · refine PW.iload_n (pc := 4) dX1_spread_4 rfl ?_
        refine PW.bipush (pc := 5) dX1_spread_5 (by decide) ?_
        refine PW.icmp_gt (pc := 7) (tgt := 26) dX1_spread_7 (by decide) (by first | omega | exact rg_of _) (by first | omega | exact rg_of _) (fun c_7 => ?_) (fun c_7 => ?_)
        · exact PW.vreturn (pc := 26) dX1_spread_26 rfl (⟨rfl, rfl, rfl, fr, PG, b⟩)
        · refine PW.iload_n (pc := 10) dX1_spread_10 rfl ?_
          refine PW.if_eq (pc := 11) (tgt := 26) dX1_spread_11 (by decide) (by first | omega | exact rg_of _) (fun c_11 => ?_) (fun c_11 => ?_)
          · exact PW.vreturn (pc := 26) dX1_spread_26 rfl (⟨rfl, rfl, rfl, fr, PG, b⟩)
          · omega
      · refine PW.iload_n (pc := 4) dX1_spread_4 rfl ?_
        refine PW.bipush (pc := 5) dX1_spread_5 (by decide) ?_
        refine PW.icmp_gt (pc := 7) (tgt := 26) dX1_spread_7 (by decide) (by first | omega | exact rg_of _) (by first | omega | exact rg_of _) (fun c_7 => ?_) (fun c_7 => ?_)
        · omega
        · refine PW.iload_n (pc := 10) dX1_spread_10 rfl ?_
          refine PW.if_eq (pc := 11) (tgt := 26) dX1_spread_11 (by decide) (by first | omega | exact rg_of _) (fun c_11 => ?_) (fun c_11 => ?_)
          · omega
          · refine PW.aload_n (pc := 14) dX1_spread_14 rfl ?_
            refine PW.aload_n (pc := 15) dX1_spread_15 rfl ?_
            refine PW.invV0 (pc := 16) dX1_spread_16 mv_X1_69 (c_X1_spreadOnce _ K hTI T ez TBI hN hz2 PG.1 hdj) (by first | assumption | rfl) rfl rfl (Nat.le_of_ble_eq_true rfl) ?_
            (rintro v Γ' I' R' ⟨rfl, rfl, m1, m2, (⟨rfl, m3⟩ | ⟨rfl, m3⟩)⟩)
            · refine PW.istore_n (pc := 19) dX1_spread_19 (by decide) ?_
              refine PW.iinc (pc := 20) dX1_spread_20 rfl (by decide) ?_
              refine PW.goto (pc := 23) (tgt := 4) dX1_spread_23 (by decide) ?_
              exact ih _ (by omega) (p + 1) 0 I' rfl (by omega) (by omega) (fun q z hq => by rw [m1 q z hq, fr q z hq]) (PG.tr m2) (Or.inl ⟨rfl, m3⟩)
            · refine PW.istore_n (pc := 19) dX1_spread_19 (by decide) ?_
              refine PW.iinc (pc := 20) dX1_spread_20 rfl (by decide) ?_
              refine PW.goto (pc := 23) (tgt := 4) dX1_spread_23 (by decide) ?_
              exact ih _ (by omega) (p + 1) 1 I' rfl (by omega) (by omega) (fun q z hq => by rw [m1 q z hq, fr q z hq]) (PG.tr m2) (Or.inr ⟨rfl, by omega⟩)
  have hcl := cnt_le (I0 (c + 1)) zn
  refine PC.ofPW (by decide) (Nat.le_of_ble_eq_true rfl) ?_
  refine PW.iconst (pc := 0) dX1_spread_0 ?_
  refine PW.istore_n (pc := 1) dX1_spread_1 (by decide) ?_
  refine PW.iconst (pc := 2) dX1_spread_2 ?_
  refine PW.istore_n (pc := 3) dX1_spread_3 (by decide) ?_
  exact loop _ 0 1 I0 rfl (by omega) (by omega) (fun _ _ _ => rfl) (Prog.rf hr) (Or.inr ⟨rfl, by omega⟩)
end SPREAD
