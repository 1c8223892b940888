section MPUBC
variable {sc : PSc} {Γ : List PTy} {R : PRm}
/-- past rows moved on by one, m numbers of them -/
def shf (I : PIm) (m : Nat) : PIm := fun q k => if q = 117 ∧ 0 ≤ k ∧ k < m then I 117 (k + 29) else I q k
set_option maxRecDepth 100000 in
set_option maxHeartbeats 1000000 in
theorem shf_step {I : PIm} {m : Nat} {i j : Int} (hi : i = m) (hj : j = (m : Int) + 29) : pw_up (shf I m) 117 i (shf I m 117 j) = shf I (m + 1) := by
  subst hi hj
  have e : shf I m 117 ((m : Int) + 29) = I 117 ((m : Int) + 29) := if_neg (by omega)
  rw [e]
  funext q k
  by_cases e : q = 117 ∧ k = (m : Int)
  · obtain ⟨rfl, rfl⟩ := e
    rw [pw_up_self]
    unfold shf
    rw [if_pos ⟨rfl, by omega, by omega⟩]
  · rw [pw_up_other e]
    unfold shf
    by_cases g : q = 117 ∧ 0 ≤ k ∧ k < m
    · rw [if_pos g, if_pos ⟨g.1, g.2.1, by omega⟩]
    · rw [if_neg g, if_neg (by omega)]
set_option maxRecDepth 100000 in
set_option maxHeartbeats 1000000 in
theorem lp_shf (d : Nat) {I : PIm} {post : PPost} (M : MAt Γ R) (K : PW sc mX11_notes d 0 0 post 39 [some (.inr (some 112)), some (.inl (261 : Int))] [] Γ (shf I 261) R) : PW sc mX11_notes d 0 0 post 11 [some (.inr (some 112)), some (.inl (0 : Int))] [] Γ I R := by
  have loop : ∀ (N m : Nat), 261 - m = N → m ≤ 261 → PW sc mX11_notes d 0 0 post 11 [some (.inr (some 112)), some (.inl (m : Int))] [] Γ (shf I m) R := by
    intro N
    induction N using Nat.strongRecOn with
    | _ N ih =>
      intro m hN hm
      by_cases hl : m < 261
      · refine PW.iload_n (pc := 11) dX11_notes_11 rfl ?_
        refine PW.sipush (pc := 12) dX11_notes_12 (by decide) ?_
        refine PW.icmp_ge (pc := 15) (tgt := 39) dX11_notes_15 (by decide) (by first | omega | exact rg_of _) (by first | omega | exact rg_of _) (fun c_15 => ?_) (fun c_15 => ?_)
        · omega
        · refine PW.aload_n (pc := 18) dX11_notes_18 rfl ?_
          refine PW.getr (pc := 19) dX11_notes_19 fl_X11_23 M.g112 M.r6 ?_
          refine PW.iload_n (pc := 22) dX11_notes_22 rfl ?_
          refine PW.aload_n (pc := 23) dX11_notes_23 rfl ?_
          refine PW.getr (pc := 24) dX11_notes_24 fl_X11_23 M.g112 M.r6 ?_
          refine PW.iload_n (pc := 27) dX11_notes_27 rfl ?_
          refine PW.bipush (pc := 28) dX11_notes_28 (by decide) ?_
          refine PW.iadd (pc := 30) dX11_notes_30 ?_
          refine PW.iald (pc := 31) dX11_notes_31 M.g117 (by omega) (by omega) (by omega) ?_
          refine PW.iast (pc := 32) dX11_notes_32 M.g117 (by omega) (by omega) (by omega) ?_
          refine PW.iinc (pc := 33) dX11_notes_33 rfl (by decide) ?_
          refine PW.goto (pc := 36) (tgt := 11) dX11_notes_36 (by decide) ?_
          rw [shf_step]
          · exact ih (261 - (m + 1)) (by omega) (m + 1) rfl (by omega)
          · omega
          · omega
      · obtain rfl : m = 261 := by omega
        refine PW.iload_n (pc := 11) dX11_notes_11 rfl ?_
        refine PW.sipush (pc := 12) dX11_notes_12 (by decide) ?_
        refine PW.icmp_ge (pc := 15) (tgt := 39) dX11_notes_15 (by decide) (by first | omega | exact rg_of _) (by first | omega | exact rg_of _) (fun c_15 => ?_) (fun c_15 => ?_)
        · exact K
        · omega
  have r := loop 261 0 rfl (by omega)
  have e0 : shf I 0 = I := by funext q k; exact if_neg (by omega)
  rw [e0] at r
  exact r
/-- what stands behind notes -/
def MRem (s : CS) (I I' : PIm) : Prop := (∀ q k, ¬ (q = 117 ∨ (q = 112 ∧ k = 7)) → I' q k = I q k) ∧ I' 112 7 = (hlen (cNh s) : Int) ∧ ∀ i : Int, 0 ≤ i → i < hlen (cNh s) → MRow (fun j => I' 117 (29 * i + j)) (hpush (cNh s) (cHs s) (cNow s) i)
set_option maxRecDepth 100000 in
set_option maxHeartbeats 1000000 in
theorem c_X11_notes (d : Nat) {I : PIm} {s : CS} (M : MAt Γ R) (vN : MRow (I 116) (cNow s)) (ok : SVok (cNow s)) (vH : MHi s I) : PC sc mX11_notes d 0 0 [.inr (some 112)] Γ I R (fun v Γ' I' R' => v = none ∧ Γ' = Γ ∧ R' = R ∧ MRem s I I') := by
  obtain ⟨h1, h2, h3⟩ := id vH
  have rest : ∀ (I1 : PIm) (u : Nat) (o : Option PV), u ≤ 9 → u + 1 = hlen (cNh s) → (∀ q k, ¬ (q = 117 ∨ (q = 112 ∧ k = 7)) → I1 q k = I q k) → I1 112 7 = u → (∀ i : Int, 0 ≤ i → i < u → MRow (fun j => I1 117 (29 * i + j)) (hpush (cNh s) (cHs s) (cNow s) i)) → hpush (cNh s) (cHs s) (cNow s) u = cNow s → (∀ i : Int, 0 ≤ i → i < u → vn (hpush (cNh s) (cHs s) (cNow s) i) ≤ 6) → PW sc mX11_notes d 0 0 (fun v Γ' I' R' => v = none ∧ Γ' = Γ ∧ R' = R ∧ MRem s I I') 49 [some (.inr (some 112)), o] [] Γ I1 R := by
    intro I1 u o u9 hu fr e7 hrow hlast h6
    have x7 : cpo I1 116 0 117 (29 * (u : Int)) 29 112 7 = u := by rw [cpo_ne (by decide)]; exact e7
    have LP := fun K => lp_notes (sc := sc) (Γ := Γ) (R := R) d (I := I1) (post := fun v Γ' I' R' => v = none ∧ Γ' = Γ ∧ R' = R ∧ MRem s I I') (u := (u : Int)) M e7 (by omega) K
    refine PW.iconst (pc := 49) dX11_notes_49 ?_
    refine PW.istore_n (pc := 50) dX11_notes_50 (by decide) ?_
    refine LP ?_
    refine PW.aload_n (pc := 83) dX11_notes_83 rfl ?_
    refine PW.dup (pc := 84) dX11_notes_84 ?_
    refine PW.geti (pc := 85) dX11_notes_85 fl_X11_165 (by decide) M.g112 ?_
    rw [x7]
    refine PW.iconst (pc := 88) dX11_notes_88 ?_
    refine PW.iadd (pc := 89) dX11_notes_89 ?_
    refine PW.puti (pc := 90) dX11_notes_90 fl_X11_165 M.g112 ?_
    refine PW.vreturn (pc := 93) dX11_notes_93 rfl ⟨rfl, rfl, rfl, fun q k g => ?_, ?_, fun i i0 i1 => ?_⟩
    · rw [pw_up_other (by omega), cpo_ne (by omega), fr q k g]
    · rw [pw_up_self]; omega
    · have ei : (fun j => pw_up (cpo I1 116 0 117 (29 * (u : Int)) 29) 112 7 ((u : Int) + 1) 117 (29 * i + j)) = (fun j => cpo I1 116 0 117 (29 * (u : Int)) 29 117 (29 * i + j)) := by funext j; exact pw_up_other (by omega)
      rw [ei]
      by_cases e : i = (u : Int)
      · rw [e, hlast]
        refine vN.cg ok.1 (fun j j0 j1 => ?_)
        rw [cpo_at j0 j1, fr 116 _ (by omega), show (0 : Int) + j = j by omega]
      · refine (hrow i i0 (by omega)).cg (h6 i i0 (by omega)) (fun j j0 j1 => ?_)
        rw [cpo_off (by omega)]
  refine PC.ofPW (by decide) (Nat.le_of_ble_eq_true rfl) ?_
  by_cases hn : cNh s < 10
  · refine PW.aload_n (pc := 0) dX11_notes_0 rfl ?_
    refine PW.geti (pc := 1) dX11_notes_1 fl_X11_165 (by decide) M.g112 ?_
    rw [h1]
    refine PW.bipush (pc := 4) dX11_notes_4 (by decide) ?_
    refine PW.icmp_ne (pc := 6) (tgt := 49) dX11_notes_6 (by decide) (by first | omega | exact rg_of _) (by first | omega | exact rg_of _) (fun c_6 => ?_) (fun c_6 => ?_)
    · exact rest I (cNh s) _ (by omega) (by unfold hlen; rw [if_pos hn]) (fun _ _ _ => rfl) h1 (fun i i0 i1 => by
        unfold hpush
        rw [if_pos hn, if_neg (by omega)]
        exact (h3 i i0 i1).1) (by unfold hpush; rw [if_pos hn, if_pos rfl]) (fun i i0 i1 => by
        unfold hpush
        rw [if_pos hn, if_neg (by omega)]
        exact (h3 i i0 i1).2.1.1)
    · omega
  · have x7 : shf I 261 112 7 = cNh s := by unfold shf; rw [if_neg (by omega)]; exact h1
    refine PW.aload_n (pc := 0) dX11_notes_0 rfl ?_
    refine PW.geti (pc := 1) dX11_notes_1 fl_X11_165 (by decide) M.g112 ?_
    rw [h1]
    refine PW.bipush (pc := 4) dX11_notes_4 (by decide) ?_
    refine PW.icmp_ne (pc := 6) (tgt := 49) dX11_notes_6 (by decide) (by first | omega | exact rg_of _) (by first | omega | exact rg_of _) (fun c_6 => ?_) (fun c_6 => ?_)
    · omega
    · refine PW.iconst (pc := 9) dX11_notes_9 ?_
      refine PW.istore_n (pc := 10) dX11_notes_10 (by decide) ?_
      refine lp_shf _ M ?_
      refine PW.aload_n (pc := 39) dX11_notes_39 rfl ?_
      refine PW.dup (pc := 40) dX11_notes_40 ?_
      refine PW.geti (pc := 41) dX11_notes_41 fl_X11_165 (by decide) M.g112 ?_
      rw [x7]
      refine PW.iconst (pc := 44) dX11_notes_44 ?_
      refine PW.isub (pc := 45) dX11_notes_45 ?_
      refine PW.puti (pc := 46) dX11_notes_46 fl_X11_165 M.g112 ?_
      have ei : ∀ i : Int, 0 ≤ i → i < 9 → (fun j => pw_up (shf I 261) 112 7 ((cNh s : Int) - 1) 117 (29 * i + j)) = (fun j => shf I 261 117 (29 * i + j)) := fun i i0 i1 => by funext j; exact pw_up_other (by omega)
      refine rest _ 9 _ (by omega) (by unfold hlen; rw [if_neg hn]) (fun q k g => ?_) (by rw [pw_up_self]; omega) (fun i i0 i1 => ?_) (by unfold hpush; rw [if_neg hn]; rfl) (fun i i0 i1 => ?_)
      · rw [pw_up_other (by omega)]
        exact if_neg (by omega)
      · rw [ei i i0 (by omega)]
        have := h3 (i + 1) (by omega) (by omega)
        unfold hpush
        rw [if_neg hn, if_neg (by omega)]
        refine this.1.cg this.2.1.1 (fun j j0 j1 => ?_)
        unfold shf
        rw [if_pos ⟨rfl, by omega, by omega⟩, show 29 * i + j + 29 = 29 * (i + 1) + j by omega]
      · unfold hpush
        rw [if_neg hn, if_neg (by omega)]
        exact (h3 (i + 1) (by omega) (by omega)).2.1.1
set_option maxRecDepth 100000 in
set_option maxHeartbeats 1000000 in
theorem MRem.val {s : CS} {I I1 I2 : PIm} {v : SV} (h : MVal s I) (r : MRem s I I1) (ok : okF s v) (hv : MRow (I2 116) v) (y : ∀ q, q ≠ 116 → I2 q = I1 q) : MVal (sPush s v) I2 := by
  obtain ⟨vT, ⟨tb, vF⟩, ⟨vN, vNo⟩, vH, vI, vS⟩ := h
  obtain ⟨r1, r2, r3⟩ := r
  have fy : ∀ q, q ≠ 112 → q ≠ 116 → q ≠ 117 → I2 q = I q := fun q a b c => by rw [y q b]; funext z; exact r1 q z (by omega)
  have f112 : ∀ z : Int, z ≠ 7 → I2 112 z = I 112 z := fun z hz => by rw [y 112 (by omega), r1 112 z (by omega)]
  refine ⟨vT.cg rfl (f112 20 (by omega)) (fy 127 (by omega) (by omega) (by omega)), ⟨tb, vF.cg rfl (f112 1 (by omega)) (f112 14 (by omega)) (fun q a b => fy q (by omega) (by omega) (by omega)) (by rw [f112 14 (by omega)]; exact vF.2.1.cg (fun q a b k _ _ => by rw [fy q (by omega) (by omega) (by omega)])) (fun _ _ _ => rfl)⟩, ⟨hv, ok⟩, ⟨by rw [y 112 (by omega)]; exact r2, (by show hlen (cNh s) ≤ 10; unfold hlen; have := vH.2.1; split <;> omega), fun i i0 i1 => ⟨?_, ?_⟩⟩, vI.cg rfl rfl (fy 118 (by omega) (by omega) (by omega)) (fy 119 (by omega) (by omega) (by omega)), vS.cg rfl rfl (f112 10 (by omega)) (fy 120 (by omega) (by omega) (by omega)) (fy 121 (by omega) (by omega) (by omega))⟩
  · rw [y 117 (by omega)]; exact r3 i i0 i1
  · exact sPush_ok (fun i i0 i1 => (vH.2.2 i i0 i1).2) vNo vH.2.1 i i0 i1
set_option maxRecDepth 100000 in
set_option maxHeartbeats 1000000 in
theorem q_leaves (d : Nat) {I : PIm} {s : CS} {f : Int} (M : MAt Γ R) (h : MVal s I) (hf : Rg f) : PC sc mX11_leaves (d + 1) 0 0 [.inr (some 112), .inl f] Γ I R (MPo Γ I R (sp_leaves s f).1 (sp_leaves s f).2) := by
  have h1 := h.thr
  have z1 : ∀ q, q < 112 → pw_up I 112 0 0 q = I q := fun q g => pw_up_ne q (by omega)
  generalize hI1 : pw_up I 112 0 0 = I1 at h1 z1
  obtain ⟨vT, ⟨tb, vF⟩, ⟨vN, vNo⟩, vH, vI, vS⟩ := id h1
  obtain ⟨n1, n2, n25, n26, n27, n28⟩ := id vN
  obtain ⟨vNok, vNoF⟩ := id vNo
  have PM := vN.prog vNok
  have o1 : vn (cNow s) ≤ 6 := vNok.1
  have o3 : 0 ≤ vl (cNow s) ∧ vl (cNow s) ≤ 3 := vNok.2.2.1
  have o4 : 0 ≤ vf (cNow s) ∧ vf (cNow s) ≤ 7 := vNok.2.2.2.1
  have o5 : 0 ≤ vw (cNow s) ∧ vw (cNow s) ≤ 1 := vNok.2.2.2.2.1
  have o6 : 0 ≤ vi (cNow s) ∧ vi (cNow s) < 64 := vNok.2.2.2.2.2
  have f1 := vF.1.1
  have f2 := vF.1.2.1
  unfold sp_leaves
  have IN1 := c_X11_in (sc := sc) (Γ := Γ) (R := R) (I := I1) d (v := f) (a := 0) (b := ((cF s).1 : Int) - 1) hf (by omega) (by omega)
  refine PC.ofPW (by decide) (Nat.le_of_ble_eq_true rfl) ?_
  by_cases q : 0 ≤ f ∧ f < ((cF s).1 : Int)
  · rw [if_neg (fun w => w q)]
    obtain ⟨x1, x2, x3⟩ := xor_rg (x := vi (cNow s)) f2 q.1 q.2 o6.1 vNoF o6.2
    refine PW.aload_n (pc := 0) dX11_leaves_0 rfl ?_
    refine PW.iconst (pc := 1) dX11_leaves_1 ?_
    refine PW.puti (pc := 2) dX11_leaves_2 fl_X11_104 M.g112 ?_
    rw [hI1]
    refine PW.iload_n (pc := 5) dX11_leaves_5 rfl ?_
    refine PW.iconst (pc := 6) dX11_leaves_6 ?_
    refine PW.aload_n (pc := 7) dX11_leaves_7 rfl ?_
    refine PW.geti (pc := 8) dX11_leaves_8 fl_X11_162 (by decide) M.g112 ?_
    rw [f1]
    refine PW.iconst (pc := 11) dX11_leaves_11 ?_
    refine PW.isub (pc := 12) dX11_leaves_12 ?_
    refine PW.invS0x (pc := 13) dX11_leaves_13 ms_X11_122 (IN1) rfl rfl (Nat.le_of_ble_eq_true rfl) ?_
    refine PW.if_ne (pc := 16) (tgt := 21) dX11_leaves_16 (by decide) (rg_bi _) (fun c_16 => ?_) (fun c_16 => ?_)
    · refine PW.aload_n (pc := 21) dX11_leaves_21 rfl ?_
      refine PW.invV0 (pc := 22) dX11_leaves_22 mv_X11_254 (c_X11_notes _ M vN vNok vH) M.g112 rfl rfl (Nat.le_of_ble_eq_true rfl) ?_
      (rintro v Γ' I' R' ⟨rfl, rfl, rfl, rm⟩)
      have e25 : I' 116 25 = vi (cNow s) := by rw [rm.1 116 25 (by omega)]; exact n25
      refine PW.aload_n (pc := 25) dX11_leaves_25 rfl ?_
      refine PW.getr (pc := 26) dX11_leaves_26 fl_X11_20 M.g112 M.r5 ?_
      refine PW.bipush (pc := 29) dX11_leaves_29 (by decide) ?_
      refine PW.dup2 (pc := 31) dX11_leaves_31 ?_
      refine PW.iald (pc := 32) dX11_leaves_32 M.g116 (by omega) (by omega) (by omega) ?_
      rw [e25]
      refine PW.iconst (pc := 33) dX11_leaves_33 ?_
      refine PW.iload_n (pc := 34) dX11_leaves_34 rfl ?_
      refine PW.ishl (pc := 35) dX11_leaves_35 ?_
      refine PW.ixor (pc := 36) dX11_leaves_36 ?_
      refine PW.iast (pc := 37) dX11_leaves_37 M.g116 (by omega) (by omega) (by omega) ?_
      refine PW.aload_n (pc := 38) dX11_leaves_38 rfl ?_
      refine PW.getr (pc := 39) dX11_leaves_39 fl_X11_20 M.g112 M.r5 ?_
      refine PW.bipush (pc := 42) dX11_leaves_42 (by decide) ?_
      refine PW.iald (pc := 44) dX11_leaves_44 M.g116 (by omega) (by omega) (by omega) ?_
      rw [pw_up_self]
      refine PW.iload_n (pc := 45) dX11_leaves_45 rfl ?_
      refine PW.ishr (pc := 46) dX11_leaves_46 ?_
      refine PW.iconst (pc := 47) dX11_leaves_47 ?_
      refine PW.iand (pc := 48) dX11_leaves_48 ?_
      exact PW.ireturn (pc := 49) dX11_leaves_49 rfl (by
      refine MPo.of (fun q g => ?_) (MRem.val h1 rm ⟨⟨vNok.1, vNok.2.1, vNok.2.2.1, vNok.2.2.2.1, vNok.2.2.2.2.1, x1, x3⟩, x2⟩ ?_ (fun q g => pw_up_ne q g))
      · rw [pw_up_ne q (by omega), ← z1 q g]; funext z; exact rm.1 q z (by omega)
      · have yy : ∀ z : Int, z ≠ 25 → pw_up I' 116 25 (pw_xor (vi (cNow s)) (pw_shl 1 f)) 116 z = I1 116 z := fun z g => by rw [pw_up_other (by omega), rm.1 116 z (by omega)]
        refine ⟨by rw [yy 0 (by omega)]; exact n1, fun k k0 k1 => ?_, pw_up_self _ _ _ _, by rw [yy 26 (by omega)]; exact n26, by rw [yy 27 (by omega)]; exact n27, by rw [yy 28 (by omega)]; exact n28⟩
        have k1' : k < (vn (cNow s) : Int) := k1
        rw [yy _ (by omega), yy _ (by omega), yy _ (by omega), yy _ (by omega)]
        exact n2 k k0 k1)
    · exact absurd c_16 (by rw [bi_pos (by omega)]; omega)
  · rw [if_pos q]
    refine PW.aload_n (pc := 0) dX11_leaves_0 rfl ?_
    refine PW.iconst (pc := 1) dX11_leaves_1 ?_
    refine PW.puti (pc := 2) dX11_leaves_2 fl_X11_104 M.g112 ?_
    rw [hI1]
    refine PW.iload_n (pc := 5) dX11_leaves_5 rfl ?_
    refine PW.iconst (pc := 6) dX11_leaves_6 ?_
    refine PW.aload_n (pc := 7) dX11_leaves_7 rfl ?_
    refine PW.geti (pc := 8) dX11_leaves_8 fl_X11_162 (by decide) M.g112 ?_
    rw [f1]
    refine PW.iconst (pc := 11) dX11_leaves_11 ?_
    refine PW.isub (pc := 12) dX11_leaves_12 ?_
    refine PW.invS0x (pc := 13) dX11_leaves_13 ms_X11_122 (IN1) rfl rfl (Nat.le_of_ble_eq_true rfl) ?_
    refine PW.if_ne (pc := 16) (tgt := 21) dX11_leaves_16 (by decide) (rg_bi _) (fun c_16 => ?_) (fun c_16 => ?_)
    · exact absurd (bi1 c_16) (by omega)
    · refine PW.iconst (pc := 19) dX11_leaves_19 ?_
      exact PW.ireturn (pc := 20) dX11_leaves_20 rfl (MPo.of z1 h1)
set_option maxRecDepth 100000 in
set_option maxHeartbeats 1000000 in
theorem q_tells (d : Nat) {I : PIm} {s : CS} {l f w : Int} (M : MAt Γ R) (h : MVal s I) (hl : Rg l) (hf : Rg f) (hw : Rg w) : PC sc mX11_tells (d + 1) 0 0 [.inr (some 112), .inl l, .inl f, .inl w] Γ I R (MPo Γ I R (sp_tells s l f w).1 (sp_tells s l f w).2) := by
  have h1 := h.thr
  have z1 : ∀ q, q < 112 → pw_up I 112 0 0 q = I q := fun q g => pw_up_ne q (by omega)
  generalize hI1 : pw_up I 112 0 0 = I1 at h1 z1
  obtain ⟨vT, ⟨tb, vF⟩, ⟨vN, vNo⟩, vH, vI, vS⟩ := id h1
  obtain ⟨n1, n2, n25, n26, n27, n28⟩ := id vN
  obtain ⟨vNok, vNoF⟩ := id vNo
  have PM := vN.prog vNok
  have o1 : vn (cNow s) ≤ 6 := vNok.1
  have o3 : 0 ≤ vl (cNow s) ∧ vl (cNow s) ≤ 3 := vNok.2.2.1
  have o4 : 0 ≤ vf (cNow s) ∧ vf (cNow s) ≤ 7 := vNok.2.2.2.1
  have o5 : 0 ≤ vw (cNow s) ∧ vw (cNow s) ≤ 1 := vNok.2.2.2.2.1
  have o6 : 0 ≤ vi (cNow s) ∧ vi (cNow s) < 64 := vNok.2.2.2.2.2
  unfold sp_tells
  have A1 := c_X11_in (sc := sc) (Γ := Γ) (R := R) (I := I1) d (v := l) (a := 0) (b := 3) hl (by omega) (by omega)
  have A2 := c_X11_in (sc := sc) (Γ := Γ) (R := R) (I := I1) d (v := f) (a := 0) (b := 7) hf (by omega) (by omega)
  have A3 := c_X11_in (sc := sc) (Γ := Γ) (R := R) (I := I1) d (v := w) (a := 0) (b := 1) hw (by omega) (by omega)
  refine PC.ofPW (by decide) (Nat.le_of_ble_eq_true rfl) ?_
  by_cases q : (0 ≤ l ∧ l ≤ 3) ∧ (0 ≤ f ∧ f ≤ 7) ∧ 0 ≤ w ∧ w ≤ 1
  · rw [if_neg (fun z => z q)]
    by_cases e : vl (cNow s) = l ∧ vf (cNow s) = f ∧ vw (cNow s) = w
    · rw [if_pos e]
      refine PW.aload_n (pc := 0) dX11_tells_0 rfl ?_
      refine PW.iconst (pc := 1) dX11_tells_1 ?_
      refine PW.puti (pc := 2) dX11_tells_2 fl_X11_104 M.g112 ?_
      rw [hI1]
      refine PW.iload_n (pc := 5) dX11_tells_5 rfl ?_
      refine PW.iconst (pc := 6) dX11_tells_6 ?_
      refine PW.iconst (pc := 7) dX11_tells_7 ?_
      refine PW.invS0x (pc := 8) dX11_tells_8 ms_X11_122 (A1) rfl rfl (Nat.le_of_ble_eq_true rfl) ?_
      refine PW.if_eq (pc := 11) (tgt := 33) dX11_tells_11 (by decide) (rg_bi _) (fun c_11 => ?_) (fun c_11 => ?_)
      · exact absurd q.1 (bi0 c_11)
      · refine PW.iload_n (pc := 14) dX11_tells_14 rfl ?_
        refine PW.iconst (pc := 15) dX11_tells_15 ?_
        refine PW.bipush (pc := 16) dX11_tells_16 (by decide) ?_
        refine PW.invS0x (pc := 18) dX11_tells_18 ms_X11_122 (A2) rfl rfl (Nat.le_of_ble_eq_true rfl) ?_
        refine PW.if_eq (pc := 21) (tgt := 33) dX11_tells_21 (by decide) (rg_bi _) (fun c_21 => ?_) (fun c_21 => ?_)
        · exact absurd q.2.1 (bi0 c_21)
        · refine PW.iload_n (pc := 24) dX11_tells_24 rfl ?_
          refine PW.iconst (pc := 25) dX11_tells_25 ?_
          refine PW.iconst (pc := 26) dX11_tells_26 ?_
          refine PW.invS0x (pc := 27) dX11_tells_27 ms_X11_122 (A3) rfl rfl (Nat.le_of_ble_eq_true rfl) ?_
          refine PW.if_ne (pc := 30) (tgt := 35) dX11_tells_30 (by decide) (rg_bi _) (fun c_30 => ?_) (fun c_30 => ?_)
          · refine PW.aload_n (pc := 35) dX11_tells_35 rfl ?_
            refine PW.getr (pc := 36) dX11_tells_36 fl_X11_20 M.g112 M.r5 ?_
            refine PW.bipush (pc := 39) dX11_tells_39 (by decide) ?_
            refine PW.iald (pc := 41) dX11_tells_41 M.g116 (by omega) (by omega) (by omega) ?_
            rw [n26]
            refine PW.iload_n (pc := 42) dX11_tells_42 rfl ?_
            refine PW.icmp_ne (pc := 43) (tgt := 71) dX11_tells_43 (by decide) (by first | omega | exact rg_of _) (by first | omega | exact rg_of _) (fun c_43 => ?_) (fun c_43 => ?_)
            · omega
            · refine PW.aload_n (pc := 46) dX11_tells_46 rfl ?_
              refine PW.getr (pc := 47) dX11_tells_47 fl_X11_20 M.g112 M.r5 ?_
              refine PW.bipush (pc := 50) dX11_tells_50 (by decide) ?_
              refine PW.iald (pc := 52) dX11_tells_52 M.g116 (by omega) (by omega) (by omega) ?_
              rw [n27]
              refine PW.iload_n (pc := 53) dX11_tells_53 rfl ?_
              refine PW.icmp_ne (pc := 54) (tgt := 71) dX11_tells_54 (by decide) (by first | omega | exact rg_of _) (by first | omega | exact rg_of _) (fun c_54 => ?_) (fun c_54 => ?_)
              · omega
              · refine PW.aload_n (pc := 57) dX11_tells_57 rfl ?_
                refine PW.getr (pc := 58) dX11_tells_58 fl_X11_20 M.g112 M.r5 ?_
                refine PW.bipush (pc := 61) dX11_tells_61 (by decide) ?_
                refine PW.iald (pc := 63) dX11_tells_63 M.g116 (by omega) (by omega) (by omega) ?_
                rw [n28]
                refine PW.iload_n (pc := 64) dX11_tells_64 rfl ?_
                refine PW.icmp_ne (pc := 65) (tgt := 71) dX11_tells_65 (by decide) (by first | omega | exact rg_of _) (by first | omega | exact rg_of _) (fun c_65 => ?_) (fun c_65 => ?_)
                · omega
                · refine PW.bipush (pc := 68) dX11_tells_68 (by decide) ?_
                  exact PW.ireturn (pc := 70) dX11_tells_70 rfl (MPo.of z1 h1)
          · exact absurd q.2.2 (bi0 c_30)
    · rw [if_neg e]
      refine PW.aload_n (pc := 0) dX11_tells_0 rfl ?_
      refine PW.iconst (pc := 1) dX11_tells_1 ?_
      refine PW.puti (pc := 2) dX11_tells_2 fl_X11_104 M.g112 ?_
      rw [hI1]
      refine PW.iload_n (pc := 5) dX11_tells_5 rfl ?_
      refine PW.iconst (pc := 6) dX11_tells_6 ?_
      refine PW.iconst (pc := 7) dX11_tells_7 ?_
      refine PW.invS0x (pc := 8) dX11_tells_8 ms_X11_122 (A1) rfl rfl (Nat.le_of_ble_eq_true rfl) ?_
      refine PW.if_eq (pc := 11) (tgt := 33) dX11_tells_11 (by decide) (rg_bi _) (fun c_11 => ?_) (fun c_11 => ?_)
      · exact absurd q.1 (bi0 c_11)
      · refine PW.iload_n (pc := 14) dX11_tells_14 rfl ?_
        refine PW.iconst (pc := 15) dX11_tells_15 ?_
        refine PW.bipush (pc := 16) dX11_tells_16 (by decide) ?_
        refine PW.invS0x (pc := 18) dX11_tells_18 ms_X11_122 (A2) rfl rfl (Nat.le_of_ble_eq_true rfl) ?_
        refine PW.if_eq (pc := 21) (tgt := 33) dX11_tells_21 (by decide) (rg_bi _) (fun c_21 => ?_) (fun c_21 => ?_)
        · exact absurd q.2.1 (bi0 c_21)
        · refine PW.iload_n (pc := 24) dX11_tells_24 rfl ?_
          refine PW.iconst (pc := 25) dX11_tells_25 ?_
          refine PW.iconst (pc := 26) dX11_tells_26 ?_
          refine PW.invS0x (pc := 27) dX11_tells_27 ms_X11_122 (A3) rfl rfl (Nat.le_of_ble_eq_true rfl) ?_
          refine PW.if_ne (pc := 30) (tgt := 35) dX11_tells_30 (by decide) (rg_bi _) (fun c_30 => ?_) (fun c_30 => ?_)
          · refine PW.aload_n (pc := 35) dX11_tells_35 rfl ?_
            refine PW.getr (pc := 36) dX11_tells_36 fl_X11_20 M.g112 M.r5 ?_
            refine PW.bipush (pc := 39) dX11_tells_39 (by decide) ?_
            refine PW.iald (pc := 41) dX11_tells_41 M.g116 (by omega) (by omega) (by omega) ?_
            rw [n26]
            refine PW.iload_n (pc := 42) dX11_tells_42 rfl ?_
            refine PW.icmp_ne (pc := 43) (tgt := 71) dX11_tells_43 (by decide) (by first | omega | exact rg_of _) (by first | omega | exact rg_of _) (fun c_43 => ?_) (fun c_43 => ?_)
            · refine PW.aload_n (pc := 71) dX11_tells_71 rfl ?_
              refine PW.invV0 (pc := 72) dX11_tells_72 mv_X11_254 (c_X11_notes _ M vN vNok vH) M.g112 rfl rfl (Nat.le_of_ble_eq_true rfl) ?_
              (rintro v Γ' I' R' ⟨rfl, rfl, rfl, rm⟩)
              refine PW.aload_n (pc := 75) dX11_tells_75 rfl ?_
              refine PW.getr (pc := 76) dX11_tells_76 fl_X11_20 M.g112 M.r5 ?_
              refine PW.bipush (pc := 79) dX11_tells_79 (by decide) ?_
              refine PW.iload_n (pc := 81) dX11_tells_81 rfl ?_
              refine PW.iast (pc := 82) dX11_tells_82 M.g116 (by omega) (by omega) (by omega) ?_
              refine PW.aload_n (pc := 83) dX11_tells_83 rfl ?_
              refine PW.getr (pc := 84) dX11_tells_84 fl_X11_20 M.g112 M.r5 ?_
              refine PW.bipush (pc := 87) dX11_tells_87 (by decide) ?_
              refine PW.iload_n (pc := 89) dX11_tells_89 rfl ?_
              refine PW.iast (pc := 90) dX11_tells_90 M.g116 (by omega) (by omega) (by omega) ?_
              refine PW.aload_n (pc := 91) dX11_tells_91 rfl ?_
              refine PW.getr (pc := 92) dX11_tells_92 fl_X11_20 M.g112 M.r5 ?_
              refine PW.bipush (pc := 95) dX11_tells_95 (by decide) ?_
              refine PW.iload_n (pc := 97) dX11_tells_97 rfl ?_
              refine PW.iast (pc := 98) dX11_tells_98 M.g116 (by omega) (by omega) (by omega) ?_
              refine PW.iconst (pc := 99) dX11_tells_99 ?_
              exact PW.ireturn (pc := 100) dX11_tells_100 rfl (by
              refine MPo.of (fun q g => ?_) (MRem.val h1 rm ⟨⟨vNok.1, vNok.2.1, q.1, q.2.1, q.2.2, vNok.2.2.2.2.2⟩, vNoF⟩ ?_ (fun q g => by rw [pw_up_ne q g, pw_up_ne q g, pw_up_ne q g]))
              · rw [pw_up_ne q (by omega), pw_up_ne q (by omega), pw_up_ne q (by omega), ← z1 q g]; funext z; exact rm.1 q z (by omega)
              · have yy : ∀ z : Int, ¬ (26 ≤ z ∧ z ≤ 28) → pw_up (pw_up (pw_up I' 116 26 l) 116 27 f) 116 28 w 116 z = I1 116 z := fun z g => by rw [pw_up_other (by omega), pw_up_other (by omega), pw_up_other (by omega), rm.1 116 z (by omega)]
                refine ⟨by rw [yy 0 (by omega)]; exact n1, fun k k0 k1 => ?_, by rw [yy 25 (by omega)]; exact n25, by rw [pw_up_other (by omega), pw_up_other (by omega), pw_up_self]; rfl, by rw [pw_up_other (by omega), pw_up_self]; rfl, by rw [pw_up_self]; rfl⟩
                have k1' : k < (vn (cNow s) : Int) := k1
                rw [yy _ (by omega), yy _ (by omega), yy _ (by omega), yy _ (by omega)]
                exact n2 k k0 k1)
            · refine PW.aload_n (pc := 46) dX11_tells_46 rfl ?_
              refine PW.getr (pc := 47) dX11_tells_47 fl_X11_20 M.g112 M.r5 ?_
              refine PW.bipush (pc := 50) dX11_tells_50 (by decide) ?_
              refine PW.iald (pc := 52) dX11_tells_52 M.g116 (by omega) (by omega) (by omega) ?_
              rw [n27]
              refine PW.iload_n (pc := 53) dX11_tells_53 rfl ?_
              refine PW.icmp_ne (pc := 54) (tgt := 71) dX11_tells_54 (by decide) (by first | omega | exact rg_of _) (by first | omega | exact rg_of _) (fun c_54 => ?_) (fun c_54 => ?_)
              · refine PW.aload_n (pc := 71) dX11_tells_71 rfl ?_
                refine PW.invV0 (pc := 72) dX11_tells_72 mv_X11_254 (c_X11_notes _ M vN vNok vH) M.g112 rfl rfl (Nat.le_of_ble_eq_true rfl) ?_
                (rintro v Γ' I' R' ⟨rfl, rfl, rfl, rm⟩)
                refine PW.aload_n (pc := 75) dX11_tells_75 rfl ?_
                refine PW.getr (pc := 76) dX11_tells_76 fl_X11_20 M.g112 M.r5 ?_
                refine PW.bipush (pc := 79) dX11_tells_79 (by decide) ?_
                refine PW.iload_n (pc := 81) dX11_tells_81 rfl ?_
                refine PW.iast (pc := 82) dX11_tells_82 M.g116 (by omega) (by omega) (by omega) ?_
                refine PW.aload_n (pc := 83) dX11_tells_83 rfl ?_
                refine PW.getr (pc := 84) dX11_tells_84 fl_X11_20 M.g112 M.r5 ?_
                refine PW.bipush (pc := 87) dX11_tells_87 (by decide) ?_
                refine PW.iload_n (pc := 89) dX11_tells_89 rfl ?_
                refine PW.iast (pc := 90) dX11_tells_90 M.g116 (by omega) (by omega) (by omega) ?_
                refine PW.aload_n (pc := 91) dX11_tells_91 rfl ?_
                refine PW.getr (pc := 92) dX11_tells_92 fl_X11_20 M.g112 M.r5 ?_
                refine PW.bipush (pc := 95) dX11_tells_95 (by decide) ?_
                refine PW.iload_n (pc := 97) dX11_tells_97 rfl ?_
                refine PW.iast (pc := 98) dX11_tells_98 M.g116 (by omega) (by omega) (by omega) ?_
                refine PW.iconst (pc := 99) dX11_tells_99 ?_
                exact PW.ireturn (pc := 100) dX11_tells_100 rfl (by
                refine MPo.of (fun q g => ?_) (MRem.val h1 rm ⟨⟨vNok.1, vNok.2.1, q.1, q.2.1, q.2.2, vNok.2.2.2.2.2⟩, vNoF⟩ ?_ (fun q g => by rw [pw_up_ne q g, pw_up_ne q g, pw_up_ne q g]))
                · rw [pw_up_ne q (by omega), pw_up_ne q (by omega), pw_up_ne q (by omega), ← z1 q g]; funext z; exact rm.1 q z (by omega)
                · have yy : ∀ z : Int, ¬ (26 ≤ z ∧ z ≤ 28) → pw_up (pw_up (pw_up I' 116 26 l) 116 27 f) 116 28 w 116 z = I1 116 z := fun z g => by rw [pw_up_other (by omega), pw_up_other (by omega), pw_up_other (by omega), rm.1 116 z (by omega)]
                  refine ⟨by rw [yy 0 (by omega)]; exact n1, fun k k0 k1 => ?_, by rw [yy 25 (by omega)]; exact n25, by rw [pw_up_other (by omega), pw_up_other (by omega), pw_up_self]; rfl, by rw [pw_up_other (by omega), pw_up_self]; rfl, by rw [pw_up_self]; rfl⟩
                  have k1' : k < (vn (cNow s) : Int) := k1
                  rw [yy _ (by omega), yy _ (by omega), yy _ (by omega), yy _ (by omega)]
                  exact n2 k k0 k1)
              · refine PW.aload_n (pc := 57) dX11_tells_57 rfl ?_
                refine PW.getr (pc := 58) dX11_tells_58 fl_X11_20 M.g112 M.r5 ?_
                refine PW.bipush (pc := 61) dX11_tells_61 (by decide) ?_
                refine PW.iald (pc := 63) dX11_tells_63 M.g116 (by omega) (by omega) (by omega) ?_
                rw [n28]
                refine PW.iload_n (pc := 64) dX11_tells_64 rfl ?_
                refine PW.icmp_ne (pc := 65) (tgt := 71) dX11_tells_65 (by decide) (by first | omega | exact rg_of _) (by first | omega | exact rg_of _) (fun c_65 => ?_) (fun c_65 => ?_)
                · refine PW.aload_n (pc := 71) dX11_tells_71 rfl ?_
                  refine PW.invV0 (pc := 72) dX11_tells_72 mv_X11_254 (c_X11_notes _ M vN vNok vH) M.g112 rfl rfl (Nat.le_of_ble_eq_true rfl) ?_
                  (rintro v Γ' I' R' ⟨rfl, rfl, rfl, rm⟩)
                  refine PW.aload_n (pc := 75) dX11_tells_75 rfl ?_
                  refine PW.getr (pc := 76) dX11_tells_76 fl_X11_20 M.g112 M.r5 ?_
                  refine PW.bipush (pc := 79) dX11_tells_79 (by decide) ?_
                  refine PW.iload_n (pc := 81) dX11_tells_81 rfl ?_
                  refine PW.iast (pc := 82) dX11_tells_82 M.g116 (by omega) (by omega) (by omega) ?_
                  refine PW.aload_n (pc := 83) dX11_tells_83 rfl ?_
                  refine PW.getr (pc := 84) dX11_tells_84 fl_X11_20 M.g112 M.r5 ?_
                  refine PW.bipush (pc := 87) dX11_tells_87 (by decide) ?_
                  refine PW.iload_n (pc := 89) dX11_tells_89 rfl ?_
                  refine PW.iast (pc := 90) dX11_tells_90 M.g116 (by omega) (by omega) (by omega) ?_
                  refine PW.aload_n (pc := 91) dX11_tells_91 rfl ?_
                  refine PW.getr (pc := 92) dX11_tells_92 fl_X11_20 M.g112 M.r5 ?_
                  refine PW.bipush (pc := 95) dX11_tells_95 (by decide) ?_
                  refine PW.iload_n (pc := 97) dX11_tells_97 rfl ?_
                  refine PW.iast (pc := 98) dX11_tells_98 M.g116 (by omega) (by omega) (by omega) ?_
                  refine PW.iconst (pc := 99) dX11_tells_99 ?_
                  exact PW.ireturn (pc := 100) dX11_tells_100 rfl (by
                  refine MPo.of (fun q g => ?_) (MRem.val h1 rm ⟨⟨vNok.1, vNok.2.1, q.1, q.2.1, q.2.2, vNok.2.2.2.2.2⟩, vNoF⟩ ?_ (fun q g => by rw [pw_up_ne q g, pw_up_ne q g, pw_up_ne q g]))
                  · rw [pw_up_ne q (by omega), pw_up_ne q (by omega), pw_up_ne q (by omega), ← z1 q g]; funext z; exact rm.1 q z (by omega)
                  · have yy : ∀ z : Int, ¬ (26 ≤ z ∧ z ≤ 28) → pw_up (pw_up (pw_up I' 116 26 l) 116 27 f) 116 28 w 116 z = I1 116 z := fun z g => by rw [pw_up_other (by omega), pw_up_other (by omega), pw_up_other (by omega), rm.1 116 z (by omega)]
                    refine ⟨by rw [yy 0 (by omega)]; exact n1, fun k k0 k1 => ?_, by rw [yy 25 (by omega)]; exact n25, by rw [pw_up_other (by omega), pw_up_other (by omega), pw_up_self]; rfl, by rw [pw_up_other (by omega), pw_up_self]; rfl, by rw [pw_up_self]; rfl⟩
                    have k1' : k < (vn (cNow s) : Int) := k1
                    rw [yy _ (by omega), yy _ (by omega), yy _ (by omega), yy _ (by omega)]
                    exact n2 k k0 k1)
                · omega
          · exact absurd q.2.2 (bi0 c_30)
  · rw [if_pos q]
    refine PW.aload_n (pc := 0) dX11_tells_0 rfl ?_
    refine PW.iconst (pc := 1) dX11_tells_1 ?_
    refine PW.puti (pc := 2) dX11_tells_2 fl_X11_104 M.g112 ?_
    rw [hI1]
    refine PW.iload_n (pc := 5) dX11_tells_5 rfl ?_
    refine PW.iconst (pc := 6) dX11_tells_6 ?_
    refine PW.iconst (pc := 7) dX11_tells_7 ?_
    refine PW.invS0x (pc := 8) dX11_tells_8 ms_X11_122 (A1) rfl rfl (Nat.le_of_ble_eq_true rfl) ?_
    refine PW.if_eq (pc := 11) (tgt := 33) dX11_tells_11 (by decide) (rg_bi _) (fun c_11 => ?_) (fun c_11 => ?_)
    · refine PW.iconst (pc := 33) dX11_tells_33 ?_
      exact PW.ireturn (pc := 34) dX11_tells_34 rfl (MPo.of z1 h1)
    · refine PW.iload_n (pc := 14) dX11_tells_14 rfl ?_
      refine PW.iconst (pc := 15) dX11_tells_15 ?_
      refine PW.bipush (pc := 16) dX11_tells_16 (by decide) ?_
      refine PW.invS0x (pc := 18) dX11_tells_18 ms_X11_122 (A2) rfl rfl (Nat.le_of_ble_eq_true rfl) ?_
      refine PW.if_eq (pc := 21) (tgt := 33) dX11_tells_21 (by decide) (rg_bi _) (fun c_21 => ?_) (fun c_21 => ?_)
      · refine PW.iconst (pc := 33) dX11_tells_33 ?_
        exact PW.ireturn (pc := 34) dX11_tells_34 rfl (MPo.of z1 h1)
      · refine PW.iload_n (pc := 24) dX11_tells_24 rfl ?_
        refine PW.iconst (pc := 25) dX11_tells_25 ?_
        refine PW.iconst (pc := 26) dX11_tells_26 ?_
        refine PW.invS0x (pc := 27) dX11_tells_27 ms_X11_122 (A3) rfl rfl (Nat.le_of_ble_eq_true rfl) ?_
        refine PW.if_ne (pc := 30) (tgt := 35) dX11_tells_30 (by decide) (rg_bi _) (fun c_30 => ?_) (fun c_30 => ?_)
        · exact absurd (And.intro (bi1 c_11) (And.intro (bi1 c_21) (bi1 c_30))) q
        · refine PW.iconst (pc := 33) dX11_tells_33 ?_
          exact PW.ireturn (pc := 34) dX11_tells_34 rfl (MPo.of z1 h1)
end MPUBC
