section MPUBD
variable {sc : PSc} {Γ : List PTy} {R : PRm}
set_option maxRecDepth 100000 in
set_option maxHeartbeats 1000000 in
/-- the same but for the row now and numbers that a call sets -/
theorem MVal.parts {s s' : CS} {I I2 : PIm} (h : MVal s I) (hs : s'.1 = s.1) (hF : cF s' = cF s) (e20 : I2 112 20 = I 112 20) (e1 : I2 112 1 = I 112 1) (e14 : I2 112 14 = I 112 14) (y : ∀ q, (113 ≤ q ∧ q ≤ 115) ∨ (122 ≤ q ∧ q ≤ 124) ∨ q = 127 → I2 q = I q) (a : MRow (I2 116) (cNow s') ∧ okF s' (cNow s')) (b : MHi s' I2) (c : MIm s' I2) (e : MSe s' I2) : MVal s' I2 := by
  obtain ⟨vT, ⟨tb, vF⟩, -⟩ := h
  exact ⟨vT.cg hs e20 (y 127 (by omega)), ⟨tb, vF.cg hF e1 e14 (fun q g1 g2 => y q (by omega)) (by rw [e14]; exact vF.2.1.cg (fun q g1 g2 k _ _ => by rw [y q (by omega)])) (fun _ _ _ => rfl)⟩, a, b, c, e⟩
set_option maxRecDepth 100000 in
set_option maxHeartbeats 1000000 in
theorem q_undo (d : Nat) {I : PIm} {s : CS} (M : MAt Γ R) (h : MVal s I) : PC sc mX11_undo d 0 0 [.inr (some 112)] Γ I R (MPo Γ I R (sp_undo s).1 (sp_undo s).2) := by
  have h1 := h.thr
  have z1 : ∀ q, q < 112 → pw_up I 112 0 0 q = I q := fun q g => pw_up_ne q (by omega)
  generalize hI1 : pw_up I 112 0 0 = I1 at h1 z1
  obtain ⟨vT, ⟨tb, vF⟩, ⟨vN, vNo⟩, vH, vI, vS⟩ := id h1
  obtain ⟨n1, n2, n25, n26, n27, n28⟩ := id vN
  obtain ⟨vNok, vNoF⟩ := id vNo
  have PM := vN.prog vNok
  have o1 : vn (cNow s) ≤ 6 := vNok.1
  have o3 : 0 ≤ vl (cNow s) ∧ vl (cNow s) ≤ 3 := vNok.2.2.1
  have o4 : 0 ≤ vf (cNow s) ∧ vf (cNow s) ≤ 7 := vNok.2.2.2.1
  have o5 : 0 ≤ vw (cNow s) ∧ vw (cNow s) ≤ 1 := vNok.2.2.2.2.1
  have o6 : 0 ≤ vi (cNow s) ∧ vi (cNow s) < 64 := vNok.2.2.2.2.2
  obtain ⟨x1, x2, x3⟩ := id vH
  unfold sp_undo
  refine PC.ofPW (by decide) (Nat.le_of_ble_eq_true rfl) ?_
  by_cases q : cNh s = 0
  · rw [if_pos q]
    refine PW.aload_n (pc := 0) dX11_undo_0 rfl ?_
    refine PW.iconst (pc := 1) dX11_undo_1 ?_
    refine PW.puti (pc := 2) dX11_undo_2 fl_X11_104 M.g112 ?_
    rw [hI1]
    refine PW.aload_n (pc := 5) dX11_undo_5 rfl ?_
    refine PW.geti (pc := 6) dX11_undo_6 fl_X11_165 (by decide) M.g112 ?_
    rw [x1]
    refine PW.if_ne (pc := 9) (tgt := 15) dX11_undo_9 (by decide) (by first | omega | exact rg_of _) (fun c_9 => ?_) (fun c_9 => ?_)
    · omega
    · refine PW.bipush (pc := 12) dX11_undo_12 (by decide) ?_
      exact PW.ireturn (pc := 14) dX11_undo_14 rfl (MPo.of z1 h1)
  · rw [if_neg q]
    have u7 : pw_up I1 112 7 ((cNh s : Int) - 1) 112 7 = (cNh s : Int) - 1 := pw_up_self _ _ _ _
    have y2 : ∀ q k, ¬ (q = 112 ∧ k = 7) → pw_up I1 112 7 ((cNh s : Int) - 1) q k = I1 q k := fun q k g => pw_up_other g
    generalize hI2 : pw_up I1 112 7 ((cNh s : Int) - 1) = I2 at u7 y2
    have e3 : cpo I2 117 (29 * ((cNh s : Int) - 1)) 116 0 29 112 7 = (cNh s : Int) - 1 := by rw [cpo_ne (by decide)]; exact u7
    obtain ⟨r1, r2⟩ := x3 ((cNh s : Int) - 1) (by omega) (by omega)
    have y3 : ∀ q k, ¬ (q = 116 ∨ (q = 112 ∧ k = 7)) → cpo I2 117 (29 * ((cNh s : Int) - 1)) 116 0 29 q k = I1 q k := fun q k g => by rw [cpo_ne (by omega), y2 q k (by omega)]
    have fy : ∀ q, q ≠ 116 → q ≠ 112 → cpo I2 117 (29 * ((cNh s : Int) - 1)) 116 0 29 q = I1 q := fun q a b => by funext z; exact y3 q z (by omega)
    have V3 : MVal (s.1, s.2.1, cHs s ((cNh s : Int) - 1), (cNh s - 1, cHs s), s.2.2.2.2) (cpo I2 117 (29 * ((cNh s : Int) - 1)) 116 0 29) := by
      refine h1.parts rfl rfl (y3 112 20 (by omega)) (y3 112 1 (by omega)) (y3 112 14 (by omega)) (fun q g => fy q (by omega) (by omega)) ⟨?_, r2⟩ ⟨?_, ?_, fun i i0 i1 => ?_⟩ (vI.cg rfl rfl (fy 118 (by omega) (by omega)) (fy 119 (by omega) (by omega))) (vS.cg rfl rfl (y3 112 10 (by omega)) (fy 120 (by omega) (by omega)) (fy 121 (by omega) (by omega)))
      · refine r1.cg r2.1.1 (fun j j0 j1 => ?_)
        have := cpo_at (I := I2) (src := 117) (oa := 29 * ((cNh s : Int) - 1)) (dst := 116) (ob := 0) (m := 29) j0 j1
        rw [show (0 : Int) + j = j by omega] at this
        rw [this, y2 117 _ (by omega)]
      · rw [e3]; show (cNh s : Int) - 1 = ((cNh s - 1 : Nat) : Int); omega
      · show cNh s - 1 ≤ 10; omega
      · have i1' : i < ((cNh s - 1 : Nat) : Int) := i1
        rw [fy 117 (by omega) (by omega)]
        exact x3 i i0 (by omega)
    refine PW.aload_n (pc := 0) dX11_undo_0 rfl ?_
    refine PW.iconst (pc := 1) dX11_undo_1 ?_
    refine PW.puti (pc := 2) dX11_undo_2 fl_X11_104 M.g112 ?_
    rw [hI1]
    refine PW.aload_n (pc := 5) dX11_undo_5 rfl ?_
    refine PW.geti (pc := 6) dX11_undo_6 fl_X11_165 (by decide) M.g112 ?_
    rw [x1]
    refine PW.if_ne (pc := 9) (tgt := 15) dX11_undo_9 (by decide) (by first | omega | exact rg_of _) (fun c_9 => ?_) (fun c_9 => ?_)
    · refine PW.aload_n (pc := 15) dX11_undo_15 rfl ?_
      refine PW.dup (pc := 16) dX11_undo_16 ?_
      refine PW.geti (pc := 17) dX11_undo_17 fl_X11_165 (by decide) M.g112 ?_
      rw [x1]
      refine PW.iconst (pc := 20) dX11_undo_20 ?_
      refine PW.isub (pc := 21) dX11_undo_21 ?_
      refine PW.puti (pc := 22) dX11_undo_22 fl_X11_165 M.g112 ?_
      rw [hI2]
      refine PW.iconst (pc := 25) dX11_undo_25 ?_
      refine PW.istore_n (pc := 26) dX11_undo_26 (by decide) ?_
      refine lp_undo _ M u7 (by omega) ?_
      refine PW.aload_n (pc := 59) dX11_undo_59 rfl ?_
      refine PW.geti (pc := 60) dX11_undo_60 fl_X11_165 (by decide) M.g112 ?_
      rw [e3]
      refine PW.ireturn (pc := 63) dX11_undo_63 rfl ?_
      rw [show (cNh s : Int) - 1 = ((cNh s - 1 : Nat) : Int) by omega] at V3 ⊢
      exact MPo.of (fun q g => by rw [show ((cNh s - 1 : Nat) : Int) = (cNh s : Int) - 1 by omega, fy q (by omega) (by omega), z1 q g]) V3
    · omega
set_option maxRecDepth 100000 in
set_option maxHeartbeats 1000000 in
theorem q_sees (d : Nat) {I : PIm} {s : CS} {x : Int} (M : MAt Γ R) (h : MVal s I) (hx : Rg x) : PC sc mX11_sees (d + 1) 0 0 [.inr (some 112), .inl x] Γ I R (MPo Γ I R (sp_sees s x).1 (sp_sees s x).2) := by
  have h1 := h.thr
  have z1 : ∀ q, q < 112 → pw_up I 112 0 0 q = I q := fun q g => pw_up_ne q (by omega)
  generalize hI1 : pw_up I 112 0 0 = I1 at h1 z1
  obtain ⟨vT, ⟨tb, vF⟩, ⟨vN, vNo⟩, vH, vI, vS⟩ := id h1
  obtain ⟨n1, n2, n25, n26, n27, n28⟩ := id vN
  obtain ⟨vNok, vNoF⟩ := id vNo
  have PM := vN.prog vNok
  have o1 : vn (cNow s) ≤ 6 := vNok.1
  have o3 : 0 ≤ vl (cNow s) ∧ vl (cNow s) ≤ 3 := vNok.2.2.1
  have o4 : 0 ≤ vf (cNow s) ∧ vf (cNow s) ≤ 7 := vNok.2.2.2.1
  have o5 : 0 ≤ vw (cNow s) ∧ vw (cNow s) ≤ 1 := vNok.2.2.2.2.1
  have o6 : 0 ≤ vi (cNow s) ∧ vi (cNow s) < 64 := vNok.2.2.2.2.2
  obtain ⟨s1, s2, s3⟩ := id vS
  unfold sp_sees
  have A1 := c_X11_in (sc := sc) (Γ := Γ) (R := R) (I := I1) d (v := x) (a := 0) (b := 15) hx (by omega) (by omega)
  refine PC.ofPW (by decide) (Nat.le_of_ble_eq_true rfl) ?_
  by_cases g : 0 ≤ x ∧ x ≤ 15
  · rw [if_neg (fun o => o g)]
    by_cases g4 : 4 ≤ cNs s
    · rw [if_pos g4]
      refine PW.aload_n (pc := 0) dX11_sees_0 rfl ?_
      refine PW.iconst (pc := 1) dX11_sees_1 ?_
      refine PW.puti (pc := 2) dX11_sees_2 fl_X11_104 M.g112 ?_
      rw [hI1]
      refine PW.iload_n (pc := 5) dX11_sees_5 rfl ?_
      refine PW.iconst (pc := 6) dX11_sees_6 ?_
      refine PW.bipush (pc := 7) dX11_sees_7 (by decide) ?_
      refine PW.invS0x (pc := 9) dX11_sees_9 ms_X11_122 (A1) rfl rfl (Nat.le_of_ble_eq_true rfl) ?_
      refine PW.if_ne (pc := 12) (tgt := 17) dX11_sees_12 (by decide) (rg_bi _) (fun c_12 => ?_) (fun c_12 => ?_)
      · refine PW.aload_n (pc := 17) dX11_sees_17 rfl ?_
        refine PW.geti (pc := 18) dX11_sees_18 fl_X11_168 (by decide) M.g112 ?_
        rw [s1]
        refine PW.iconst (pc := 21) dX11_sees_21 ?_
        refine PW.icmp_ne (pc := 22) (tgt := 28) dX11_sees_22 (by decide) (by first | omega | exact rg_of _) (by first | omega | exact rg_of _) (fun c_22 => ?_) (fun c_22 => ?_)
        · omega
        · refine PW.bipush (pc := 25) dX11_sees_25 (by decide) ?_
          exact PW.ireturn (pc := 27) dX11_sees_27 rfl (MPo.of z1 h1)
      · exact absurd g (bi0 c_12)
    · rw [if_neg g4]
      have e10 : pw_up I1 120 (cNs s) x 112 10 = cNs s := by rw [pw_up_other (by omega)]; exact s1
      have e120 : ∀ k, pw_up I1 120 (cNs s) x 120 k = if k = (cNs s : Int) then x else I1 120 k := fun k => by
        by_cases e : k = (cNs s : Int)
        · rw [if_pos e, e]; exact pw_up_self _ _ _ _
        · rw [if_neg e]; exact pw_up_other (by omega)
      have y2 : ∀ q, q ≠ 120 → pw_up I1 120 (cNs s) x q = I1 q := fun q g => pw_up_ne q g
      generalize hI2 : pw_up I1 120 (cNs s) x = I2 at e10 e120 y2
      have x10 : cpo I2 116 0 121 (29 * (cNs s : Int)) 29 112 10 = cNs s := by rw [cpo_ne (by decide)]; exact e10
      have w10 : pw_up (cpo I2 116 0 121 (29 * (cNs s : Int)) 29) 112 10 ((cNs s : Int) + 1) 112 10 = (cNs s : Int) + 1 := pw_up_self _ _ _ _
      have y3 : ∀ q k, ¬ (q = 120 ∨ q = 121 ∨ (q = 112 ∧ k = 10)) → pw_up (cpo I2 116 0 121 (29 * (cNs s : Int)) 29) 112 10 ((cNs s : Int) + 1) q k = I1 q k := fun q k g => by rw [pw_up_other (by omega), cpo_ne (by omega), y2 q (by omega)]
      have z121 : ∀ k, pw_up (cpo I2 116 0 121 (29 * (cNs s : Int)) 29) 112 10 ((cNs s : Int) + 1) 121 k = cpo I2 116 0 121 (29 * (cNs s : Int)) 29 121 k := fun k => pw_up_other (by omega)
      have z120 : ∀ k, pw_up (cpo I2 116 0 121 (29 * (cNs s : Int)) 29) 112 10 ((cNs s : Int) + 1) 120 k = if k = (cNs s : Int) then x else I1 120 k := fun k => by rw [pw_up_other (by omega), cpo_ne (by omega), e120]
      have V3 : MVal (s.1, s.2.1, s.2.2.1, s.2.2.2.1, s.2.2.2.2.1, (cNs s + 1, fun j => if j = (cNs s : Int) then (x, cNow s) else cSeen s j)) (pw_up (cpo I2 116 0 121 (29 * (cNs s : Int)) 29) 112 10 ((cNs s : Int) + 1)) := by
        generalize pw_up (cpo I2 116 0 121 (29 * (cNs s : Int)) 29) 112 10 ((cNs s : Int) + 1) = I3 at *
        have fy : ∀ q, q ≠ 120 → q ≠ 121 → q ≠ 112 → I3 q = I1 q := fun q a b c => by funext z; exact y3 q z (by omega)
        refine h1.parts rfl rfl (y3 112 20 (by omega)) (y3 112 1 (by omega)) (y3 112 14 (by omega)) (fun q g => fy q (by omega) (by omega) (by omega)) ⟨by rw [fy 116 (by omega) (by omega) (by omega)]; exact vN, vNo⟩ (vH.cg rfl rfl rfl (y3 112 7 (by omega)) (fy 117 (by omega) (by omega) (by omega))) (vI.cg rfl rfl (fy 118 (by omega) (by omega) (by omega)) (fy 119 (by omega) (by omega) (by omega))) ⟨by rw [w10]; exact (Int.natCast_succ _).symm, (by show cNs s + 1 ≤ 4; omega), fun i i0 i1 => ?_⟩
        have i1' : i < ((cNs s + 1 : Nat) : Int) := i1
        show (I3 120 i = (if i = (cNs s : Int) then (x, cNow s) else cSeen s i).1 ∧ 0 ≤ (if i = (cNs s : Int) then (x, cNow s) else cSeen s i).1 ∧ (if i = (cNs s : Int) then (x, cNow s) else cSeen s i).1 ≤ 15) ∧ MRow (fun j => I3 121 (29 * i + j)) (if i = (cNs s : Int) then (x, cNow s) else cSeen s i).2 ∧ SVok (if i = (cNs s : Int) then (x, cNow s) else cSeen s i).2
        rw [z120]
        by_cases e : i = (cNs s : Int)
        · rw [if_pos e, if_pos e]
          refine ⟨⟨rfl, g.1, g.2⟩, vN.cg vNok.1 (fun j j0 j1 => ?_), vNok⟩
          rw [e, z121, cpo_at j0 j1, y2 116 (by omega), show (0 : Int) + j = j by omega]
        · rw [if_neg e, if_neg e]
          obtain ⟨t1, t2, t3⟩ := s3 i i0 (by omega)
          refine ⟨t1, t2.cg t3.1 (fun j j0 j1 => ?_), t3⟩
          rw [z121, cpo_off (by omega), y2 121 (by omega)]
      refine PW.aload_n (pc := 0) dX11_sees_0 rfl ?_
      refine PW.iconst (pc := 1) dX11_sees_1 ?_
      refine PW.puti (pc := 2) dX11_sees_2 fl_X11_104 M.g112 ?_
      rw [hI1]
      refine PW.iload_n (pc := 5) dX11_sees_5 rfl ?_
      refine PW.iconst (pc := 6) dX11_sees_6 ?_
      refine PW.bipush (pc := 7) dX11_sees_7 (by decide) ?_
      refine PW.invS0x (pc := 9) dX11_sees_9 ms_X11_122 (A1) rfl rfl (Nat.le_of_ble_eq_true rfl) ?_
      refine PW.if_ne (pc := 12) (tgt := 17) dX11_sees_12 (by decide) (rg_bi _) (fun c_12 => ?_) (fun c_12 => ?_)
      · refine PW.aload_n (pc := 17) dX11_sees_17 rfl ?_
        refine PW.geti (pc := 18) dX11_sees_18 fl_X11_168 (by decide) M.g112 ?_
        rw [s1]
        refine PW.iconst (pc := 21) dX11_sees_21 ?_
        refine PW.icmp_ne (pc := 22) (tgt := 28) dX11_sees_22 (by decide) (by first | omega | exact rg_of _) (by first | omega | exact rg_of _) (fun c_22 => ?_) (fun c_22 => ?_)
        · refine PW.aload_n (pc := 28) dX11_sees_28 rfl ?_
          refine PW.getr (pc := 29) dX11_sees_29 fl_X11_32 M.g112 M.r11 ?_
          refine PW.aload_n (pc := 32) dX11_sees_32 rfl ?_
          refine PW.geti (pc := 33) dX11_sees_33 fl_X11_168 (by decide) M.g112 ?_
          rw [s1]
          refine PW.iload_n (pc := 36) dX11_sees_36 rfl ?_
          refine PW.iast (pc := 37) dX11_sees_37 M.g120 (by omega) (by omega) (by omega) ?_
          rw [hI2]
          refine PW.iconst (pc := 38) dX11_sees_38 ?_
          refine PW.istore_n (pc := 39) dX11_sees_39 (by decide) ?_
          refine lp_sees _ M e10 (by omega) ?_
          refine PW.aload_n (pc := 72) dX11_sees_72 rfl ?_
          refine PW.dup (pc := 73) dX11_sees_73 ?_
          refine PW.geti (pc := 74) dX11_sees_74 fl_X11_168 (by decide) M.g112 ?_
          rw [x10]
          refine PW.iconst (pc := 77) dX11_sees_77 ?_
          refine PW.iadd (pc := 78) dX11_sees_78 ?_
          refine PW.puti (pc := 79) dX11_sees_79 fl_X11_168 M.g112 ?_
          refine PW.aload_n (pc := 82) dX11_sees_82 rfl ?_
          refine PW.geti (pc := 83) dX11_sees_83 fl_X11_168 (by decide) M.g112 ?_
          rw [w10]
          exact PW.ireturn (pc := 86) dX11_sees_86 rfl (MPo.of (fun q g => by rw [← z1 q g]; funext z; exact y3 q z (by omega)) V3)
        · omega
      · exact absurd g (bi0 c_12)
  · rw [if_pos g]
    refine PW.aload_n (pc := 0) dX11_sees_0 rfl ?_
    refine PW.iconst (pc := 1) dX11_sees_1 ?_
    refine PW.puti (pc := 2) dX11_sees_2 fl_X11_104 M.g112 ?_
    rw [hI1]
    refine PW.iload_n (pc := 5) dX11_sees_5 rfl ?_
    refine PW.iconst (pc := 6) dX11_sees_6 ?_
    refine PW.bipush (pc := 7) dX11_sees_7 (by decide) ?_
    refine PW.invS0x (pc := 9) dX11_sees_9 ms_X11_122 (A1) rfl rfl (Nat.le_of_ble_eq_true rfl) ?_
    refine PW.if_ne (pc := 12) (tgt := 17) dX11_sees_12 (by decide) (rg_bi _) (fun c_12 => ?_) (fun c_12 => ?_)
    · exact absurd (bi1 c_12) g
    · refine PW.iconst (pc := 15) dX11_sees_15 ?_
      exact PW.ireturn (pc := 16) dX11_sees_16 rfl (MPo.of z1 h1)
set_option maxRecDepth 100000 in
set_option maxHeartbeats 1000000 in
theorem q_keep (d : Nat) {I : PIm} {s : CS} {u : Int} (M : MAt Γ R) (h : MVal s I) (hu : Rg u) : PC sc mX11_keep (d + 1) 0 0 [.inr (some 112), .inl u] Γ I R (MPo Γ I R (sp_keep s u).1 (sp_keep s u).2) := by
  have h1 := h.thr
  have z1 : ∀ q, q < 112 → pw_up I 112 0 0 q = I q := fun q g => pw_up_ne q (by omega)
  generalize hI1 : pw_up I 112 0 0 = I1 at h1 z1
  obtain ⟨vT, ⟨tb, vF⟩, ⟨vN, vNo⟩, vH, vI, vS⟩ := id h1
  obtain ⟨n1, n2, n25, n26, n27, n28⟩ := id vN
  obtain ⟨vNok, vNoF⟩ := id vNo
  have PM := vN.prog vNok
  have o1 : vn (cNow s) ≤ 6 := vNok.1
  have o3 : 0 ≤ vl (cNow s) ∧ vl (cNow s) ≤ 3 := vNok.2.2.1
  have o4 : 0 ≤ vf (cNow s) ∧ vf (cNow s) ≤ 7 := vNok.2.2.2.1
  have o5 : 0 ≤ vw (cNow s) ∧ vw (cNow s) ≤ 1 := vNok.2.2.2.2.1
  have o6 : 0 ≤ vi (cNow s) ∧ vi (cNow s) < 64 := vNok.2.2.2.2.2
  unfold sp_keep
  have A1 := c_X11_in (sc := sc) (Γ := Γ) (R := R) (I := I1) d (v := u) (a := 0) (b := 1) hu (by omega) (by omega)
  refine PC.ofPW (by decide) (Nat.le_of_ble_eq_true rfl) ?_
  by_cases g : 0 ≤ u ∧ u ≤ 1
  · rw [if_neg (fun o => o g)]
    have y3 : ∀ q, q ≠ 118 → q ≠ 119 → pw_up (cpo I1 116 0 118 (29 * u) 29) 119 u 1 q = I1 q := fun q a b => by rw [pw_up_ne q b, cpo_ne a]
    have z119 : ∀ k, pw_up (cpo I1 116 0 118 (29 * u) 29) 119 u 1 119 k = if k = u then 1 else I1 119 k := fun k => by
      by_cases e : k = u
      · rw [if_pos e, e]; exact pw_up_self _ _ _ _
      · rw [if_neg e, pw_up_other (by omega), cpo_ne (by omega)]
    have z118 : ∀ k, pw_up (cpo I1 116 0 118 (29 * u) 29) 119 u 1 118 k = cpo I1 116 0 118 (29 * u) 29 118 k := fun k => pw_up_other (by omega)
    have V3 : MVal (s.1, s.2.1, s.2.2.1, s.2.2.2.1, (fun j => if j = u then (1, cNow s) else cIm s j), s.2.2.2.2.2) (pw_up (cpo I1 116 0 118 (29 * u) 29) 119 u 1) := by
      generalize pw_up (cpo I1 116 0 118 (29 * u) 29) 119 u 1 = I3 at *
      refine h1.parts rfl rfl (by rw [y3 112 (by omega) (by omega)]) (by rw [y3 112 (by omega) (by omega)]) (by rw [y3 112 (by omega) (by omega)]) (fun q g => y3 q (by omega) (by omega)) ⟨by rw [y3 116 (by omega) (by omega)]; exact vN, vNo⟩ (vH.cg rfl rfl rfl (by rw [y3 112 (by omega) (by omega)]) (y3 117 (by omega) (by omega))) (fun i i0 i1 => ?_) (vS.cg rfl rfl (by rw [y3 112 (by omega) (by omega)]) (y3 120 (by omega) (by omega)) (y3 121 (by omega) (by omega)))
      show I3 119 i = (if i = u then (1, cNow s) else cIm s i).1 ∧ ((if i = u then (1, cNow s) else cIm s i).1 = 0 ∨ ((if i = u then (1, cNow s) else cIm s i).1 = 1 ∧ MRow (fun j => I3 118 (29 * i + j)) (if i = u then (1, cNow s) else cIm s i).2 ∧ okF s (if i = u then (1, cNow s) else cIm s i).2))
      rw [z119]
      by_cases e : i = u
      · rw [if_pos e, if_pos e]
        refine ⟨rfl, Or.inr ⟨rfl, vN.cg vNok.1 (fun j j0 j1 => ?_), vNo⟩⟩
        rw [e, z118, cpo_at j0 j1, show (0 : Int) + j = j by omega]
      · rw [if_neg e, if_neg e]
        obtain ⟨t1, t2⟩ := vI i i0 i1
        refine ⟨t1, t2.imp id (fun t => ⟨t.1, t.2.1.cg t.2.2.1.1 (fun j j0 j1 => ?_), t.2.2⟩)⟩
        rw [z118, cpo_off (by omega)]
    refine PW.aload_n (pc := 0) dX11_keep_0 rfl ?_
    refine PW.iconst (pc := 1) dX11_keep_1 ?_
    refine PW.puti (pc := 2) dX11_keep_2 fl_X11_104 M.g112 ?_
    rw [hI1]
    refine PW.iload_n (pc := 5) dX11_keep_5 rfl ?_
    refine PW.iconst (pc := 6) dX11_keep_6 ?_
    refine PW.iconst (pc := 7) dX11_keep_7 ?_
    refine PW.invS0x (pc := 8) dX11_keep_8 ms_X11_122 (A1) rfl rfl (Nat.le_of_ble_eq_true rfl) ?_
    refine PW.if_ne (pc := 11) (tgt := 16) dX11_keep_11 (by decide) (rg_bi _) (fun c_11 => ?_) (fun c_11 => ?_)
    · refine PW.iconst (pc := 16) dX11_keep_16 ?_
      refine PW.istore_n (pc := 17) dX11_keep_17 (by decide) ?_
      refine lp_keep _ M g ?_
      refine PW.aload_n (pc := 47) dX11_keep_47 rfl ?_
      refine PW.getr (pc := 48) dX11_keep_48 fl_X11_29 M.g112 M.r9 ?_
      refine PW.iload_n (pc := 51) dX11_keep_51 rfl ?_
      refine PW.iconst (pc := 52) dX11_keep_52 ?_
      refine PW.zast (pc := 53) dX11_keep_53 M.g119 (by omega) (by omega) (by omega) (Or.inr rfl) ?_
      refine PW.aload_n (pc := 54) dX11_keep_54 rfl ?_
      refine PW.getr (pc := 55) dX11_keep_55 fl_X11_20 M.g112 M.r5 ?_
      refine PW.iconst (pc := 58) dX11_keep_58 ?_
      refine PW.iald (pc := 59) dX11_keep_59 M.g116 (by omega) (by omega) (by omega) ?_
      rw [y3 116 (by omega) (by omega), n1]
      exact PW.ireturn (pc := 60) dX11_keep_60 rfl (MPo.of (fun q g => by rw [y3 q (by omega) (by omega), z1 q g]) V3)
    · exact absurd g (bi0 c_11)
  · rw [if_pos g]
    refine PW.aload_n (pc := 0) dX11_keep_0 rfl ?_
    refine PW.iconst (pc := 1) dX11_keep_1 ?_
    refine PW.puti (pc := 2) dX11_keep_2 fl_X11_104 M.g112 ?_
    rw [hI1]
    refine PW.iload_n (pc := 5) dX11_keep_5 rfl ?_
    refine PW.iconst (pc := 6) dX11_keep_6 ?_
    refine PW.iconst (pc := 7) dX11_keep_7 ?_
    refine PW.invS0x (pc := 8) dX11_keep_8 ms_X11_122 (A1) rfl rfl (Nat.le_of_ble_eq_true rfl) ?_
    refine PW.if_ne (pc := 11) (tgt := 16) dX11_keep_11 (by decide) (rg_bi _) (fun c_11 => ?_) (fun c_11 => ?_)
    · exact absurd (bi1 c_11) g
    · refine PW.iconst (pc := 14) dX11_keep_14 ?_
      exact PW.ireturn (pc := 15) dX11_keep_15 rfl (MPo.of z1 h1)
set_option maxRecDepth 100000 in
set_option maxHeartbeats 1000000 in
theorem q_back (d : Nat) {I : PIm} {s : CS} {u : Int} (M : MAt Γ R) (h : MVal s I) (hu : Rg u) : PC sc mX11_back (d + 1) 0 0 [.inr (some 112), .inl u] Γ I R (MPo Γ I R (sp_back s u).1 (sp_back s u).2) := by
  have h1 := h.thr
  have z1 : ∀ q, q < 112 → pw_up I 112 0 0 q = I q := fun q g => pw_up_ne q (by omega)
  generalize hI1 : pw_up I 112 0 0 = I1 at h1 z1
  obtain ⟨vT, ⟨tb, vF⟩, ⟨vN, vNo⟩, vH, vI, vS⟩ := id h1
  obtain ⟨n1, n2, n25, n26, n27, n28⟩ := id vN
  obtain ⟨vNok, vNoF⟩ := id vNo
  have PM := vN.prog vNok
  have o1 : vn (cNow s) ≤ 6 := vNok.1
  have o3 : 0 ≤ vl (cNow s) ∧ vl (cNow s) ≤ 3 := vNok.2.2.1
  have o4 : 0 ≤ vf (cNow s) ∧ vf (cNow s) ≤ 7 := vNok.2.2.2.1
  have o5 : 0 ≤ vw (cNow s) ∧ vw (cNow s) ≤ 1 := vNok.2.2.2.2.1
  have o6 : 0 ≤ vi (cNow s) ∧ vi (cNow s) < 64 := vNok.2.2.2.2.2
  unfold sp_back
  have A1 := c_X11_in (sc := sc) (Γ := Γ) (R := R) (I := I1) d (v := u) (a := 0) (b := 1) hu (by omega) (by omega)
  refine PC.ofPW (by decide) (Nat.le_of_ble_eq_true rfl) ?_
  by_cases g : 0 ≤ u ∧ u ≤ 1
  · rw [if_neg (fun o => o g)]
    obtain ⟨t1, t2⟩ := vI u g.1 g.2
    rcases t2 with e0 | ⟨e1, r1, r2⟩
    · rw [if_pos e0]
      refine PW.aload_n (pc := 0) dX11_back_0 rfl ?_
      refine PW.iconst (pc := 1) dX11_back_1 ?_
      refine PW.puti (pc := 2) dX11_back_2 fl_X11_104 M.g112 ?_
      rw [hI1]
      refine PW.iload_n (pc := 5) dX11_back_5 rfl ?_
      refine PW.iconst (pc := 6) dX11_back_6 ?_
      refine PW.iconst (pc := 7) dX11_back_7 ?_
      refine PW.invS0x (pc := 8) dX11_back_8 ms_X11_122 (A1) rfl rfl (Nat.le_of_ble_eq_true rfl) ?_
      refine PW.if_ne (pc := 11) (tgt := 16) dX11_back_11 (by decide) (rg_bi _) (fun c_11 => ?_) (fun c_11 => ?_)
      · refine PW.aload_n (pc := 16) dX11_back_16 rfl ?_
        refine PW.getr (pc := 17) dX11_back_17 fl_X11_29 M.g112 M.r9 ?_
        refine PW.iload_n (pc := 20) dX11_back_20 rfl ?_
        refine PW.zald (pc := 21) dX11_back_21 M.g119 (by omega) (by omega) (by omega) ?_
        rw [t1, e0]
        refine PW.if_ne (pc := 22) (tgt := 28) dX11_back_22 (by decide) (by first | omega | exact rg_of _) (fun c_22 => ?_) (fun c_22 => ?_)
        · omega
        · refine PW.bipush (pc := 25) dX11_back_25 (by decide) ?_
          exact PW.ireturn (pc := 27) dX11_back_27 rfl (MPo.of z1 h1)
      · exact absurd g (bi0 c_11)
    · rw [if_neg (by omega)]
      have y3 : ∀ q k, ¬ (q = 116 ∨ (q = 112 ∧ k = 7)) → pw_up (cpo I1 118 (29 * u) 116 0 29) 112 7 0 q k = I1 q k := fun q k g => by rw [pw_up_other (by omega), cpo_ne (by omega)]
      have z7 : pw_up (cpo I1 118 (29 * u) 116 0 29) 112 7 0 112 7 = 0 := pw_up_self _ _ _ _
      have rr : MRow (pw_up (cpo I1 118 (29 * u) 116 0 29) 112 7 0 116) (cIm s u).2 := by
        refine r1.cg r2.1.1 (fun j j0 j1 => ?_)
        have := cpo_at (I := I1) (src := 118) (oa := 29 * u) (dst := 116) (ob := 0) (m := 29) j0 j1
        rw [show (0 : Int) + j = j by omega] at this
        rw [pw_up_other (by omega), this]
      have V3 : MVal (s.1, s.2.1, (cIm s u).2, (0, cHs s), s.2.2.2.2) (pw_up (cpo I1 118 (29 * u) 116 0 29) 112 7 0) := by
        have fy : ∀ q, q ≠ 116 → q ≠ 112 → pw_up (cpo I1 118 (29 * u) 116 0 29) 112 7 0 q = I1 q := fun q a b => by funext z; exact y3 q z (by omega)
        exact h1.parts rfl rfl (y3 112 20 (by omega)) (y3 112 1 (by omega)) (y3 112 14 (by omega)) (fun q g => fy q (by omega) (by omega)) ⟨rr, r2⟩ ⟨z7, Nat.zero_le _, fun i i0 i1 => absurd i1 (by show ¬ i < ((0 : Nat) : Int); omega)⟩ (vI.cg rfl rfl (fy 118 (by omega) (by omega)) (fy 119 (by omega) (by omega))) (vS.cg rfl rfl (y3 112 10 (by omega)) (fy 120 (by omega) (by omega)) (fy 121 (by omega) (by omega)))
      refine PW.aload_n (pc := 0) dX11_back_0 rfl ?_
      refine PW.iconst (pc := 1) dX11_back_1 ?_
      refine PW.puti (pc := 2) dX11_back_2 fl_X11_104 M.g112 ?_
      rw [hI1]
      refine PW.iload_n (pc := 5) dX11_back_5 rfl ?_
      refine PW.iconst (pc := 6) dX11_back_6 ?_
      refine PW.iconst (pc := 7) dX11_back_7 ?_
      refine PW.invS0x (pc := 8) dX11_back_8 ms_X11_122 (A1) rfl rfl (Nat.le_of_ble_eq_true rfl) ?_
      refine PW.if_ne (pc := 11) (tgt := 16) dX11_back_11 (by decide) (rg_bi _) (fun c_11 => ?_) (fun c_11 => ?_)
      · refine PW.aload_n (pc := 16) dX11_back_16 rfl ?_
        refine PW.getr (pc := 17) dX11_back_17 fl_X11_29 M.g112 M.r9 ?_
        refine PW.iload_n (pc := 20) dX11_back_20 rfl ?_
        refine PW.zald (pc := 21) dX11_back_21 M.g119 (by omega) (by omega) (by omega) ?_
        rw [t1, e1]
        refine PW.if_ne (pc := 22) (tgt := 28) dX11_back_22 (by decide) (by first | omega | exact rg_of _) (fun c_22 => ?_) (fun c_22 => ?_)
        · refine PW.iconst (pc := 28) dX11_back_28 ?_
          refine PW.istore_n (pc := 29) dX11_back_29 (by decide) ?_
          refine lp_back _ M g ?_
          refine PW.aload_n (pc := 59) dX11_back_59 rfl ?_
          refine PW.iconst (pc := 60) dX11_back_60 ?_
          refine PW.puti (pc := 61) dX11_back_61 fl_X11_165 M.g112 ?_
          refine PW.aload_n (pc := 64) dX11_back_64 rfl ?_
          refine PW.getr (pc := 65) dX11_back_65 fl_X11_20 M.g112 M.r5 ?_
          refine PW.iconst (pc := 68) dX11_back_68 ?_
          refine PW.iald (pc := 69) dX11_back_69 M.g116 (by omega) (by omega) (by omega) ?_
          rw [rr.1]
          exact PW.ireturn (pc := 70) dX11_back_70 rfl (MPo.of (fun q g => by rw [← z1 q g]; funext z; exact y3 q z (by omega)) V3)
        · omega
      · exact absurd g (bi0 c_11)
  · rw [if_pos g]
    refine PW.aload_n (pc := 0) dX11_back_0 rfl ?_
    refine PW.iconst (pc := 1) dX11_back_1 ?_
    refine PW.puti (pc := 2) dX11_back_2 fl_X11_104 M.g112 ?_
    rw [hI1]
    refine PW.iload_n (pc := 5) dX11_back_5 rfl ?_
    refine PW.iconst (pc := 6) dX11_back_6 ?_
    refine PW.iconst (pc := 7) dX11_back_7 ?_
    refine PW.invS0x (pc := 8) dX11_back_8 ms_X11_122 (A1) rfl rfl (Nat.le_of_ble_eq_true rfl) ?_
    refine PW.if_ne (pc := 11) (tgt := 16) dX11_back_11 (by decide) (rg_bi _) (fun c_11 => ?_) (fun c_11 => ?_)
    · exact absurd (bi1 c_11) g
    · refine PW.iconst (pc := 14) dX11_back_14 ?_
      exact PW.ireturn (pc := 15) dX11_back_15 rfl (MPo.of z1 h1)
end MPUBD
