section MUNSEEN
variable {sc : PSc} {Γ : List PTy} {R : PRm}
set_option maxRecDepth 100000 in
set_option maxHeartbeats 1000000 in
theorem clr_d : ∀ f : Fin 8, ∀ x : Fin 256, pw_and (x.val : Int) (pw_xor (pw_shl 1 (f.val : Int)) (-1)) = pw_and (x.val : Int) (255 - 2 ^ f.val) := by decide +kernel
set_option maxRecDepth 100000 in
set_option maxHeartbeats 1000000 in
theorem clr_b : ∀ f : Fin 8, (255 : Int) - 2 ^ f.val = bsum (fun j => decide (j ≠ (f.val : Int))) 8 := by decide +kernel
set_option maxRecDepth 100000 in
set_option maxHeartbeats 1000000 in
theorem bsum_clr (g : Int → Bool) {f : Nat} (hf : f < 8) : pw_and (bsum g 8) (pw_xor (pw_shl 1 (f : Int)) (-1)) = bsum (fun j => g j && decide (j ≠ (f : Int))) 8 := by
  have G := bsum_rg g 8
  have e : (2 : Int) ^ 8 = 256 := by decide
  have := clr_d ⟨f, hf⟩ ⟨(bsum g 8).toNat, by omega⟩
  simp only [Int.toNat_of_nonneg G.1] at this
  rw [this, clr_b ⟨f, hf⟩, bsum_and]
set_option maxRecDepth 100000 in
set_option maxHeartbeats 1000000 in
theorem bsum_255 (g : Int → Bool) : pw_and (bsum g 8) 255 = bsum g 8 := by
  have G := bsum_rg g 8
  have e : (2 : Int) ^ 8 = 256 := by decide
  rw [show (255 : Int) = ((2 ^ 8 - 1 : Nat) : Int) by decide, and_mask G.1 (by omega) 8 (by decide), Int.emod_eq_of_lt G.1 (by rw [show ((2 ^ 8 : Nat) : Int) = 256 by decide]; omega)]
def okU (s : CS) (j g : Int) : Prop := dif (vP (cSeen s j).2) (vl (cSeen s j).2) g 0 (vn (cSeen s j).2) = (cSeen s j).1
noncomputable def uset (s : CS) (k f : Nat) : Int := bsum (fun g => cdec ((∀ j : Int, 0 ≤ j → j < k → okU s j g) ∧ (g < f → okU s k g))) 8
set_option maxRecDepth 100000 in
set_option maxHeartbeats 1000000 in
theorem uset_next (s : CS) (k : Nat) : uset s k 8 = uset s (k + 1) 0 := by
  unfold uset
  refine bsum_congr 8 (fun g g0 g1 => cdec_congr ⟨fun a => ⟨fun j j0 j1 => ?_, fun o => by omega⟩, fun a => ⟨fun j j0 j1 => a.1 j j0 (by omega), fun _ => a.1 k (by omega) (by omega)⟩⟩)
  by_cases e : j = (k : Int)
  · rw [e]; exact a.2 (by omega)
  · exact a.1 j j0 (by omega)
set_option maxRecDepth 100000 in
set_option maxHeartbeats 1000000 in
theorem uset_0 (s : CS) : uset s 0 0 = 255 := by
  unfold uset
  rw [bsum_congr (g := fun _ => true) 8 (fun j _ _ => cdec_true.mpr ⟨fun k k0 k1 => by omega, fun o => by omega⟩)]
  decide
set_option maxRecDepth 100000 in
set_option maxHeartbeats 1000000 in
theorem uset_end (s : CS) : uset s (cNs s) 0 = unsn (cNs s) (cSeen s) := by
  unfold uset unsn
  exact bsum_congr 8 (fun g g0 g1 => cdec_congr ⟨fun a => a.1, fun a => ⟨a, fun o => by omega⟩⟩)
set_option maxRecDepth 100000 in
set_option maxHeartbeats 1000000 in
theorem uset_yes {s : CS} {k f : Nat} (hf : f < 8) (h : okU s k f) : pw_and (uset s k f) 255 = uset s k (f + 1) := by
  unfold uset
  rw [bsum_255]
  refine bsum_congr 8 (fun g g0 g1 => cdec_congr ⟨fun a => ⟨a.1, fun o => ?_⟩, fun a => ⟨a.1, fun o => a.2 (by omega)⟩⟩)
  by_cases e : g = (f : Int)
  · rw [e]; exact h
  · exact a.2 (by omega)
set_option maxRecDepth 100000 in
set_option maxHeartbeats 1000000 in
theorem uset_no {s : CS} {k f : Nat} (hf : f < 8) (h : ¬ okU s k f) : pw_and (uset s k f) (pw_xor (pw_shl 1 (f : Int)) (-1)) = uset s k (f + 1) := by
  unfold uset
  rw [bsum_clr _ hf]
  refine bsum_congr 8 (fun g g0 g1 => ?_)
  rw [Bool.eq_iff_iff, Bool.and_eq_true, cdec_true, cdec_true, decide_eq_true_iff]
  constructor
  · rintro ⟨⟨a, b⟩, c⟩
    exact ⟨a, fun o => b (by omega)⟩
  · rintro ⟨a, b⟩
    refine ⟨⟨a, fun o => b (by omega)⟩, fun e => h ?_⟩
    have := b (by omega)
    rw [e] at this
    exact this
/-- while another row stands in the place of the row now -/
def UInv (s : CS) (I1 I : PIm) : Prop := (∃ tb, MFa s I tb) ∧ (∀ k : Int, k ≠ 13 → I 112 k = I1 112 k) ∧ (∀ q, q < 112 ∨ (113 ≤ q ∧ q ≤ 121 ∧ q ≠ 116) ∨ q = 127 → I q = I1 q) ∧ ∀ j : Int, 0 ≤ j → j < 29 → I 141 j = I1 116 j
set_option maxRecDepth 100000 in
set_option maxHeartbeats 1000000 in
theorem UInv.run {s : CS} {I1 I I' : PIm} {tb tb' : Int → Tm} {P : Int → Int} {lag fw w : Int} {n : Nat} (h : UInv s I1 I) (hF : MFa s I tb) (r : MRun I I' tb tb' P lag fw w n) : UInv s I1 I' := by
  obtain ⟨-, a, b, c⟩ := h
  refine ⟨⟨tb', (hF.run r).1⟩, fun k hk => by rw [r.2.2.2.2.2.2 112 k (by omega), a k hk], fun q g => by rw [← b q g]; funext z; exact r.2.2.2.2.2.2 q z (by omega), fun j j0 j1 => by rw [r.lo 141 (by omega) (by omega)]; exact c j j0 j1⟩
set_option maxRecDepth 100000 in
set_option maxHeartbeats 1000000 in
theorem UInv.s116 {s : CS} {I1 I I' : PIm} (h : UInv s I1 I) (y : ∀ q, q ≠ 116 → I' q = I q) : UInv s I1 I' := by
  obtain ⟨⟨tb, t⟩, a, b, c⟩ := h
  refine ⟨⟨tb, t.cg rfl (by rw [y 112 (by omega)]) (by rw [y 112 (by omega)]) (fun q g1 g2 => y q (by omega)) (by rw [y 112 (by omega)]; exact t.2.1.cg (fun q g1 g2 k _ _ => by rw [y q (by omega)])) (fun _ _ _ => rfl)⟩, fun k hk => by rw [y 112 (by omega), a k hk], fun q g => by rw [y q (by omega), b q g], fun j j0 j1 => by rw [y 141 (by omega)]; exact c j j0 j1⟩
set_option maxRecDepth 100000 in
set_option maxHeartbeats 1000000 in
theorem UInv.done {s : CS} {I1 I : PIm} (h1 : MVal s I1) (h : UInv s I1 I) : MVal s (cpo I 141 0 116 0 29) := by
  obtain ⟨⟨tb, t⟩, a, b, c⟩ := id h
  obtain ⟨⟨tb2, t2⟩, a2, b2, c2⟩ := h.s116 (I' := cpo I 141 0 116 0 29) (fun q g => cpo_ne g)
  obtain ⟨vT, -, ⟨vN, vNo⟩, vH, vI, vS⟩ := h1
  refine ⟨vT.cg rfl (a2 20 (by omega)) (b2 127 (by omega)), ⟨tb2, t2⟩, ⟨vN.cg vNo.1.1 (fun j j0 j1 => ?_), vNo⟩, vH.cg rfl rfl rfl (a2 7 (by omega)) (b2 117 (by omega)), vI.cg rfl rfl (b2 118 (by omega)) (b2 119 (by omega)), vS.cg rfl rfl (a2 10 (by omega)) (b2 120 (by omega)) (b2 121 (by omega))⟩
  have := cpo_at (I := I) (src := 141) (oa := 0) (dst := 116) (ob := 0) (m := 29) j0 j1
  rw [show (0 : Int) + j = j by omega] at this
  rw [this, c j j0 j1]
set_option maxRecDepth 100000 in
set_option maxHeartbeats 1000000 in
theorem q_unseen (d : Nat) {I : PIm} {s : CS} (M : MAt Γ R) (h : MVal s I) : PC sc mX11_unseen (d + 7) 0 0 [.inr (some 112)] Γ I R (MPo Γ I R (sp_unseen s) s) := by
  have h1 := h.thr
  have z1 : ∀ q, q < 112 → pw_up I 112 0 0 q = I q := fun q g => pw_up_ne q (by omega)
  generalize hI1 : pw_up I 112 0 0 = I1 at h1 z1
  obtain ⟨vT, ⟨tb, vF⟩, ⟨vN, vNo⟩, vH, vI, vS⟩ := id h1
  obtain ⟨n1, n2, n25, n26, n27, n28⟩ := id vN
  obtain ⟨vNok, vNoF⟩ := id vNo
  have PM := vN.prog vNok
  have o1 : vn (cNow s) ≤ 6 := vNok.1
  have o3 : 0 ≤ vl (cNow s) ∧ vl (cNow s) ≤ 3 := vNok.2.2.1
  have o4 : 0 ≤ vf (cNow s) ∧ vf (cNow s) ≤ 7 := vNok.2.2.2.1
  have o5 : 0 ≤ vw (cNow s) ∧ vw (cNow s) ≤ 1 := vNok.2.2.2.2.1
  have o6 : 0 ≤ vi (cNow s) ∧ vi (cNow s) < 64 := vNok.2.2.2.2.2
  obtain ⟨s1, s2, s3⟩ := id vS
  unfold sp_unseen
  have inner : ∀ (k : Nat), k < cNs s → ∀ (N f : Nat) (I2 : PIm), 8 - f = N → f ≤ 8 → UInv s I1 I2 → MRow (I2 116) (cSeen s k).2 → (∀ I3 : PIm, UInv s I1 I3 → PW sc mX11_unseen (d + 7) 0 0 (MPo Γ I R (unsn (cNs s) (cSeen s)) s) 123 [some (.inr (some 112)), some (.inl (uset s k 8)), some (.inl (k : Int)), some (.inl 8)] [] Γ I3 R) → PW sc mX11_unseen (d + 7) 0 0 (MPo Γ I R (unsn (cNs s) (cSeen s)) s) 78 [some (.inr (some 112)), some (.inl (uset s k f)), some (.inl (k : Int)), some (.inl (f : Int))] [] Γ I2 R := by
    intro k hk N
    obtain ⟨⟨e1, e2, e3⟩, e4, e5⟩ := s3 k (by omega) (by omega)
    induction N using Nat.strongRecOn with
    | _ N ih =>
      intro f I2 hN hf U rw2 nxt
      by_cases hf8 : f < 8
      · obtain ⟨⟨tb2, F2⟩, u2, u3, u4⟩ := id U
        have RN := c_X11_runs (sc := sc) (Γ := Γ) (R := R) d (fw := (f : Int)) (w := 0) M (rw2.prog e5) rw2.2.2.2.1 e5.2.2.1 (Or.inl rfl) F2.2.1 F2.2.2.1
        have f104 := F2.2.2.1
        have dr := dif_rg (vP (cSeen s k).2) (vl (cSeen s k).2) (f : Int) 0 (vn (cSeen s k).2)
        have e5' : vn (cSeen s k).2 ≤ 6 := e5.1
        refine PW.iload_n (pc := 78) dX11_unseen_78 rfl ?_
        refine PW.bipush (pc := 79) dX11_unseen_79 (by decide) ?_
        refine PW.icmp_ge (pc := 81) (tgt := 123) dX11_unseen_81 (by decide) (by first | omega | exact rg_of _) (by first | omega | exact rg_of _) (fun c_81 => ?_) (fun c_81 => ?_)
        · omega
        · refine PW.aload_n (pc := 84) dX11_unseen_84 rfl ?_
          refine PW.iload_n (pc := 85) dX11_unseen_85 rfl ?_
          refine PW.iconst (pc := 86) dX11_unseen_86 ?_
          refine PW.invV0 (pc := 87) dX11_unseen_87 mv_X11_220 (RN) M.g112 rfl rfl (Nat.le_of_ble_eq_true rfl) ?_
          (rintro v Γ' I3 R' ⟨rfl, rfl, rfl, tb', rn⟩)
          have U3 := U.run F2 rn
          have rz := rn.2.1
          have e120 : I3 120 k = (cSeen s k).1 := by rw [U3.2.2.1 120 (by omega)]; exact e1
          have UN := c_X11_unlike (sc := sc) (Γ := Γ') (R := R') (d + 6) M rn.1 (by omega) rn.2.2.2.2.1
          have nx := ih (8 - (f + 1)) (by omega) (f + 1) I3 rfl (by omega) U3 (by rw [rn.lo 116 (by omega) (by omega)]; exact rw2) nxt
          refine PW.iload_n (pc := 90) dX11_unseen_90 rfl ?_
          refine PW.aload_n (pc := 91) dX11_unseen_91 rfl ?_
          refine PW.invV0x (pc := 92) dX11_unseen_92 mv_X11_245 (UN) M.g112 rfl rfl (Nat.le_of_ble_eq_true rfl) ?_
          refine PW.aload_n (pc := 95) dX11_unseen_95 rfl ?_
          refine PW.getr (pc := 96) dX11_unseen_96 fl_X11_32 M.g112 M.r11 ?_
          refine PW.iload_n (pc := 99) dX11_unseen_99 rfl ?_
          refine PW.iald (pc := 100) dX11_unseen_100 M.g120 (by omega) (by omega) (by omega) ?_
          rw [e120]
          refine PW.icmp_ne (pc := 101) (tgt := 110) dX11_unseen_101 (by decide) (by first | omega | exact rg_of _) (by first | omega | exact rg_of _) (fun c_101 => ?_) (fun c_101 => ?_)
          · rw [← uset_no hf8 c_101] at nx
            refine PW.iconst (pc := 110) dX11_unseen_110 ?_
            refine PW.iload_n (pc := 111) dX11_unseen_111 rfl ?_
            refine PW.ishl (pc := 112) dX11_unseen_112 ?_
            refine PW.iconst (pc := 113) dX11_unseen_113 ?_
            refine PW.ixor (pc := 114) dX11_unseen_114 ?_
            refine PW.iand (pc := 115) dX11_unseen_115 ?_
            refine PW.istore_n (pc := 116) dX11_unseen_116 (by decide) ?_
            refine PW.iinc (pc := 117) dX11_unseen_117 rfl (by decide) ?_
            refine PW.goto (pc := 120) (tgt := 78) dX11_unseen_120 (by decide) ?_
            exact nx
          · rw [← uset_yes hf8 c_101] at nx
            refine PW.sipush (pc := 104) dX11_unseen_104 (by decide) ?_
            refine PW.goto (pc := 107) (tgt := 115) dX11_unseen_107 (by decide) ?_
            refine PW.iand (pc := 115) dX11_unseen_115 ?_
            refine PW.istore_n (pc := 116) dX11_unseen_116 (by decide) ?_
            refine PW.iinc (pc := 117) dX11_unseen_117 rfl (by decide) ?_
            refine PW.goto (pc := 120) (tgt := 78) dX11_unseen_120 (by decide) ?_
            exact nx
      · obtain rfl : f = 8 := by omega
        refine PW.iload_n (pc := 78) dX11_unseen_78 rfl ?_
        refine PW.bipush (pc := 79) dX11_unseen_79 (by decide) ?_
        refine PW.icmp_ge (pc := 81) (tgt := 123) dX11_unseen_81 (by decide) (by first | omega | exact rg_of _) (by first | omega | exact rg_of _) (fun c_81 => ?_) (fun c_81 => ?_)
        · exact nxt I2 U
        · omega
  have outer : ∀ (N k : Nat) (I2 : PIm) (o : Option PV), cNs s - k = N → k ≤ cNs s → UInv s I1 I2 → PW sc mX11_unseen (d + 7) 0 0 (MPo Γ I R (unsn (cNs s) (cSeen s)) s) 37 [some (.inr (some 112)), some (.inl (uset s k 0)), some (.inl (k : Int)), o] [] Γ I2 R := by
    intro N
    induction N using Nat.strongRecOn with
    | _ N ih =>
      intro k I2 o hN hk U
      have e10 : I2 112 10 = cNs s := by rw [U.2.1 10 (by omega)]; exact s1
      by_cases hl : k < cNs s
      · obtain ⟨⟨e1, e2, e3⟩, e4, e5⟩ := s3 k (by omega) (by omega)
        have U3 : UInv s I1 (cpo I2 121 (29 * (k : Int)) 116 0 29) := U.s116 (fun q g => cpo_ne g)
        have rr : MRow (cpo I2 121 (29 * (k : Int)) 116 0 29 116) (cSeen s k).2 := e4.cg e5.1 (fun j j0 j1 => by
          have := cpo_at (I := I2) (src := 121) (oa := 29 * (k : Int)) (dst := 116) (ob := 0) (m := 29) j0 j1
          rw [show (0 : Int) + j = j by omega] at this
          rw [this, U.2.2.1 121 (by omega)])
        have nxt : ∀ I3 : PIm, UInv s I1 I3 → PW sc mX11_unseen (d + 7) 0 0 (MPo Γ I R (unsn (cNs s) (cSeen s)) s) 123 [some (.inr (some 112)), some (.inl (uset s k 8)), some (.inl (k : Int)), some (.inl 8)] [] Γ I3 R := by
          intro I3 U4
          have nx := ih (cNs s - (k + 1)) (by omega) (k + 1) I3 (some (.inl 8)) rfl (by omega) U4
          rw [← uset_next] at nx
          refine PW.iinc (pc := 123) dX11_unseen_123 rfl (by decide) ?_
          refine PW.goto (pc := 126) (tgt := 37) dX11_unseen_126 (by decide) ?_
          exact nx
        have IN := inner k hl 8 0 _ rfl (by omega) U3 rr nxt
        refine PW.iload_n (pc := 37) dX11_unseen_37 rfl ?_
        refine PW.aload_n (pc := 38) dX11_unseen_38 rfl ?_
        refine PW.geti (pc := 39) dX11_unseen_39 fl_X11_168 (by decide) M.g112 ?_
        rw [e10]
        refine PW.icmp_ge (pc := 42) (tgt := 129) dX11_unseen_42 (by decide) (by first | omega | exact rg_of _) (by first | omega | exact rg_of _) (fun c_42 => ?_) (fun c_42 => ?_)
        · omega
        · refine PW.iconst (pc := 45) dX11_unseen_45 ?_
          refine PW.istore_n (pc := 46) dX11_unseen_46 (by decide) ?_
          refine lp_unseenB _ M (by omega) ?_
          refine PW.iconst (pc := 76) dX11_unseen_76 ?_
          refine PW.istore_n (pc := 77) dX11_unseen_77 (by decide) ?_
          exact IN
      · obtain rfl : k = cNs s := by omega
        have V3 := UInv.done h1 U
        have lo3 : ∀ q, q < 112 → cpo I2 141 0 116 0 29 q = I q := fun q g => by rw [cpo_ne (by omega), U.2.2.1 q (by omega), z1 q g]
        rw [← uset_end]
        refine PW.iload_n (pc := 37) dX11_unseen_37 rfl ?_
        refine PW.aload_n (pc := 38) dX11_unseen_38 rfl ?_
        refine PW.geti (pc := 39) dX11_unseen_39 fl_X11_168 (by decide) M.g112 ?_
        rw [e10]
        refine PW.icmp_ge (pc := 42) (tgt := 129) dX11_unseen_42 (by decide) (by first | omega | exact rg_of _) (by first | omega | exact rg_of _) (fun c_42 => ?_) (fun c_42 => ?_)
        · refine PW.iconst (pc := 129) dX11_unseen_129 ?_
          refine PW.istore_n (pc := 130) dX11_unseen_130 (by decide) ?_
          refine lp_unseenC _ M ?_
          refine PW.iload_n (pc := 155) dX11_unseen_155 rfl ?_
          exact PW.ireturn (pc := 156) dX11_unseen_156 rfl (MPo.of lo3 V3)
        · omega
  have U0 : UInv s I1 (cpo I1 116 0 141 0 29) := by
    refine ⟨⟨tb, vF.cg rfl (by rw [cpo_ne (by omega)]) (by rw [cpo_ne (by omega)]) (fun q g1 g2 => cpo_ne (by omega)) (by rw [cpo_ne (by omega)]; exact vF.2.1.cg (fun q g1 g2 k _ _ => by rw [cpo_ne (by omega)])) (fun _ _ _ => rfl)⟩, fun k hk => by rw [cpo_ne (by omega)], fun q g => cpo_ne (by omega), fun j j0 j1 => ?_⟩
    have := cpo_at (I := I1) (src := 116) (oa := 0) (dst := 141) (ob := 0) (m := 29) j0 j1
    rw [show (0 : Int) + j = j by omega] at this
    exact this
  have O0 := outer (cNs s) 0 _ none rfl (by omega) U0
  rw [uset_0] at O0
  refine PC.ofPW (by decide) (Nat.le_of_ble_eq_true rfl) ?_
  refine PW.aload_n (pc := 0) dX11_unseen_0 rfl ?_
  refine PW.iconst (pc := 1) dX11_unseen_1 ?_
  refine PW.puti (pc := 2) dX11_unseen_2 fl_X11_104 M.g112 ?_
  rw [hI1]
  refine PW.sipush (pc := 5) dX11_unseen_5 (by decide) ?_
  refine PW.istore_n (pc := 8) dX11_unseen_8 (by decide) ?_
  refine PW.iconst (pc := 9) dX11_unseen_9 ?_
  refine PW.istore_n (pc := 10) dX11_unseen_10 (by decide) ?_
  refine lp_unseenA _ M ?_
  refine PW.iconst (pc := 35) dX11_unseen_35 ?_
  refine PW.istore_n (pc := 36) dX11_unseen_36 (by decide) ?_
  exact O0
end MUNSEEN
