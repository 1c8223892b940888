section MROWS
variable {sc : PSc} {Γ : List PTy} {R : PRm}
/-- a row copied, m numbers of it -/
def cpo (I : PIm) (src : Nat) (oa : Int) (dst : Nat) (ob : Int) (m : Nat) : PIm := fun q k => if q = dst ∧ ob ≤ k ∧ k < ob + m then I src (oa + (k - ob)) else I q k
set_option maxRecDepth 100000 in
set_option maxHeartbeats 1000000 in
theorem cpo_0 (I : PIm) (src : Nat) (oa : Int) (dst : Nat) (ob : Int) : cpo I src oa dst ob 0 = I := by
  funext q k
  exact if_neg (by omega)
set_option maxRecDepth 100000 in
set_option maxHeartbeats 1000000 in
theorem cpo_ne {I : PIm} {src : Nat} {oa : Int} {dst : Nat} {ob : Int} {m q : Nat} (h : q ≠ dst) : cpo I src oa dst ob m q = I q := by
  funext k
  exact if_neg (by omega)
set_option maxRecDepth 100000 in
set_option maxHeartbeats 1000000 in
theorem cpo_at {I : PIm} {src : Nat} {oa : Int} {dst : Nat} {ob : Int} {m : Nat} {j : Int} (h0 : 0 ≤ j) (h1 : j < m) : cpo I src oa dst ob m dst (ob + j) = I src (oa + j) := by
  unfold cpo
  rw [if_pos ⟨rfl, by omega, by omega⟩, show oa + (ob + j - ob) = oa + j by omega]
set_option maxRecDepth 100000 in
set_option maxHeartbeats 1000000 in
theorem cpo_off {I : PIm} {src : Nat} {oa : Int} {dst : Nat} {ob : Int} {m q : Nat} {k : Int} (h : k < ob ∨ ob + m ≤ k) : cpo I src oa dst ob m q k = I q k := if_neg (by omega)
set_option maxRecDepth 100000 in
set_option maxHeartbeats 1000000 in
theorem cpo_step {I : PIm} {src : Nat} {oa : Int} {dst : Nat} {ob : Int} {m : Nat} {i j : Int} (hsd : src ≠ dst) (hi : i = ob + m) (hj : j = oa + m) : pw_up (cpo I src oa dst ob m) dst i (cpo I src oa dst ob m src j) = cpo I src oa dst ob (m + 1) := by
  subst hi hj
  rw [cpo_ne hsd]
  funext q k
  by_cases e : q = dst ∧ k = ob + m
  · obtain ⟨rfl, rfl⟩ := e
    rw [pw_up_self]
    unfold cpo
    rw [if_pos ⟨rfl, by omega, by omega⟩, show oa + (ob + m - ob) = oa + m by omega]
  · rw [pw_up_other e]
    unfold cpo
    by_cases g : q = dst ∧ ob ≤ k ∧ k < ob + m
    · rw [if_pos g, if_pos ⟨g.1, g.2.1, by omega⟩]
    · rw [if_neg g, if_neg (by omega)]
set_option maxRecDepth 100000 in
set_option maxHeartbeats 1000000 in
theorem lp_notes (d : Nat) {I : PIm} {post : PPost} {u : Int} (M : MAt Γ R) (hu : I 112 7 = u) (u0 : 0 ≤ u ∧ u ≤ 9) (K : PW sc mX11_notes d 0 0 post 83 [some (.inr (some 112)), some (.inl (29 : Int))] [] Γ (cpo I 116 0 117 (29 * u) 29) R) : PW sc mX11_notes d 0 0 post 51 [some (.inr (some 112)), some (.inl (0 : Int))] [] Γ I R := by
  have loop : ∀ (N m : Nat), 29 - m = N → m ≤ 29 → PW sc mX11_notes d 0 0 post 51 [some (.inr (some 112)), some (.inl (m : Int))] [] Γ (cpo I 116 0 117 (29 * u) m) R := by
    intro N
    induction N using Nat.strongRecOn with
    | _ N ih =>
      intro m hN hm
      by_cases hl : m < 29
      · refine PW.iload_n (pc := 51) dX11_notes_51 rfl ?_
        refine PW.bipush (pc := 52) dX11_notes_52 (by decide) ?_
        refine PW.icmp_ge (pc := 54) (tgt := 83) dX11_notes_54 (by decide) (by first | omega | exact rg_of _) (by first | omega | exact rg_of _) (fun c_54 => ?_) (fun c_54 => ?_)
        · omega
        · refine PW.aload_n (pc := 57) dX11_notes_57 rfl ?_
          refine PW.getr (pc := 58) dX11_notes_58 fl_X11_23 M.g112 M.r6 ?_
          refine PW.bipush (pc := 61) dX11_notes_61 (by decide) ?_
          refine PW.aload_n (pc := 63) dX11_notes_63 rfl ?_
          refine PW.geti (pc := 64) dX11_notes_64 fl_X11_165 (by decide) M.g112 ?_
          rw [cpo_ne (by decide), hu]
          refine PW.imul (pc := 67) dX11_notes_67 ?_
          refine PW.iload_n (pc := 68) dX11_notes_68 rfl ?_
          refine PW.iadd (pc := 69) dX11_notes_69 ?_
          refine PW.aload_n (pc := 70) dX11_notes_70 rfl ?_
          refine PW.getr (pc := 71) dX11_notes_71 fl_X11_20 M.g112 M.r5 ?_
          refine PW.iload_n (pc := 74) dX11_notes_74 rfl ?_
          refine PW.iald (pc := 75) dX11_notes_75 M.g116 (by omega) (by omega) (by omega) ?_
          refine PW.iast (pc := 76) dX11_notes_76 M.g117 (by omega) (by omega) (by omega) ?_
          refine PW.iinc (pc := 77) dX11_notes_77 rfl (by decide) ?_
          refine PW.goto (pc := 80) (tgt := 51) dX11_notes_80 (by decide) ?_
          rw [cpo_step (by decide)]
          · exact ih (29 - (m + 1)) (by omega) (m + 1) rfl (by omega)
          · omega
          · omega
      · obtain rfl : m = 29 := by omega
        refine PW.iload_n (pc := 51) dX11_notes_51 rfl ?_
        refine PW.bipush (pc := 52) dX11_notes_52 (by decide) ?_
        refine PW.icmp_ge (pc := 54) (tgt := 83) dX11_notes_54 (by decide) (by first | omega | exact rg_of _) (by first | omega | exact rg_of _) (fun c_54 => ?_) (fun c_54 => ?_)
        · exact K
        · omega
  have r := loop 29 0 rfl (by omega)
  rw [cpo_0] at r
  exact r
set_option maxRecDepth 100000 in
set_option maxHeartbeats 1000000 in
theorem lp_undo (d : Nat) {I : PIm} {post : PPost} {u : Int} (M : MAt Γ R) (hu : I 112 7 = u) (u0 : 0 ≤ u ∧ u ≤ 9) (K : PW sc mX11_undo d 0 0 post 59 [some (.inr (some 112)), some (.inl (29 : Int))] [] Γ (cpo I 117 (29 * u) 116 0 29) R) : PW sc mX11_undo d 0 0 post 27 [some (.inr (some 112)), some (.inl (0 : Int))] [] Γ I R := by
  have loop : ∀ (N m : Nat), 29 - m = N → m ≤ 29 → PW sc mX11_undo d 0 0 post 27 [some (.inr (some 112)), some (.inl (m : Int))] [] Γ (cpo I 117 (29 * u) 116 0 m) R := by
    intro N
    induction N using Nat.strongRecOn with
    | _ N ih =>
      intro m hN hm
      by_cases hl : m < 29
      · refine PW.iload_n (pc := 27) dX11_undo_27 rfl ?_
        refine PW.bipush (pc := 28) dX11_undo_28 (by decide) ?_
        refine PW.icmp_ge (pc := 30) (tgt := 59) dX11_undo_30 (by decide) (by first | omega | exact rg_of _) (by first | omega | exact rg_of _) (fun c_30 => ?_) (fun c_30 => ?_)
        · omega
        · refine PW.aload_n (pc := 33) dX11_undo_33 rfl ?_
          refine PW.getr (pc := 34) dX11_undo_34 fl_X11_20 M.g112 M.r5 ?_
          refine PW.iload_n (pc := 37) dX11_undo_37 rfl ?_
          refine PW.aload_n (pc := 38) dX11_undo_38 rfl ?_
          refine PW.getr (pc := 39) dX11_undo_39 fl_X11_23 M.g112 M.r6 ?_
          refine PW.bipush (pc := 42) dX11_undo_42 (by decide) ?_
          refine PW.aload_n (pc := 44) dX11_undo_44 rfl ?_
          refine PW.geti (pc := 45) dX11_undo_45 fl_X11_165 (by decide) M.g112 ?_
          rw [cpo_ne (q := 112) (by decide), hu]
          refine PW.imul (pc := 48) dX11_undo_48 ?_
          refine PW.iload_n (pc := 49) dX11_undo_49 rfl ?_
          refine PW.iadd (pc := 50) dX11_undo_50 ?_
          refine PW.iald (pc := 51) dX11_undo_51 M.g117 (by omega) (by omega) (by omega) ?_
          refine PW.iast (pc := 52) dX11_undo_52 M.g116 (by omega) (by omega) (by omega) ?_
          refine PW.iinc (pc := 53) dX11_undo_53 rfl (by decide) ?_
          refine PW.goto (pc := 56) (tgt := 27) dX11_undo_56 (by decide) ?_
          rw [cpo_step (by decide)]
          · exact ih (29 - (m + 1)) (by omega) (m + 1) rfl (by omega)
          · omega
          · omega
      · obtain rfl : m = 29 := by omega
        refine PW.iload_n (pc := 27) dX11_undo_27 rfl ?_
        refine PW.bipush (pc := 28) dX11_undo_28 (by decide) ?_
        refine PW.icmp_ge (pc := 30) (tgt := 59) dX11_undo_30 (by decide) (by first | omega | exact rg_of _) (by first | omega | exact rg_of _) (fun c_30 => ?_) (fun c_30 => ?_)
        · exact K
        · omega
  have r := loop 29 0 rfl (by omega)
  rw [cpo_0] at r
  exact r
set_option maxRecDepth 100000 in
set_option maxHeartbeats 1000000 in
theorem lp_sees (d : Nat) {I : PIm} {post : PPost} {u x : Int} (M : MAt Γ R) (hu : I 112 10 = u) (u0 : 0 ≤ u ∧ u ≤ 3) (K : PW sc mX11_sees d 0 0 post 72 [some (.inr (some 112)), some (.inl x), some (.inl (29 : Int))] [] Γ (cpo I 116 0 121 (29 * u) 29) R) : PW sc mX11_sees d 0 0 post 40 [some (.inr (some 112)), some (.inl x), some (.inl (0 : Int))] [] Γ I R := by
  have loop : ∀ (N m : Nat), 29 - m = N → m ≤ 29 → PW sc mX11_sees d 0 0 post 40 [some (.inr (some 112)), some (.inl x), some (.inl (m : Int))] [] Γ (cpo I 116 0 121 (29 * u) m) R := by
    intro N
    induction N using Nat.strongRecOn with
    | _ N ih =>
      intro m hN hm
      by_cases hl : m < 29
      · refine PW.iload_n (pc := 40) dX11_sees_40 rfl ?_
        refine PW.bipush (pc := 41) dX11_sees_41 (by decide) ?_
        refine PW.icmp_ge (pc := 43) (tgt := 72) dX11_sees_43 (by decide) (by first | omega | exact rg_of _) (by first | omega | exact rg_of _) (fun c_43 => ?_) (fun c_43 => ?_)
        · omega
        · refine PW.aload_n (pc := 46) dX11_sees_46 rfl ?_
          refine PW.getr (pc := 47) dX11_sees_47 fl_X11_35 M.g112 M.r12 ?_
          refine PW.bipush (pc := 50) dX11_sees_50 (by decide) ?_
          refine PW.aload_n (pc := 52) dX11_sees_52 rfl ?_
          refine PW.geti (pc := 53) dX11_sees_53 fl_X11_168 (by decide) M.g112 ?_
          rw [cpo_ne (by decide), hu]
          refine PW.imul (pc := 56) dX11_sees_56 ?_
          refine PW.iload_n (pc := 57) dX11_sees_57 rfl ?_
          refine PW.iadd (pc := 58) dX11_sees_58 ?_
          refine PW.aload_n (pc := 59) dX11_sees_59 rfl ?_
          refine PW.getr (pc := 60) dX11_sees_60 fl_X11_20 M.g112 M.r5 ?_
          refine PW.iload_n (pc := 63) dX11_sees_63 rfl ?_
          refine PW.iald (pc := 64) dX11_sees_64 M.g116 (by omega) (by omega) (by omega) ?_
          refine PW.iast (pc := 65) dX11_sees_65 M.g121 (by omega) (by omega) (by omega) ?_
          refine PW.iinc (pc := 66) dX11_sees_66 rfl (by decide) ?_
          refine PW.goto (pc := 69) (tgt := 40) dX11_sees_69 (by decide) ?_
          rw [cpo_step (by decide)]
          · exact ih (29 - (m + 1)) (by omega) (m + 1) rfl (by omega)
          · omega
          · omega
      · obtain rfl : m = 29 := by omega
        refine PW.iload_n (pc := 40) dX11_sees_40 rfl ?_
        refine PW.bipush (pc := 41) dX11_sees_41 (by decide) ?_
        refine PW.icmp_ge (pc := 43) (tgt := 72) dX11_sees_43 (by decide) (by first | omega | exact rg_of _) (by first | omega | exact rg_of _) (fun c_43 => ?_) (fun c_43 => ?_)
        · exact K
        · omega
  have r := loop 29 0 rfl (by omega)
  rw [cpo_0] at r
  exact r
set_option maxRecDepth 100000 in
set_option maxHeartbeats 1000000 in
theorem lp_keep (d : Nat) {I : PIm} {post : PPost} {u : Int} (M : MAt Γ R) (u0 : 0 ≤ u ∧ u ≤ 1) (K : PW sc mX11_keep d 0 0 post 47 [some (.inr (some 112)), some (.inl u), some (.inl (29 : Int))] [] Γ (cpo I 116 0 118 (29 * u) 29) R) : PW sc mX11_keep d 0 0 post 18 [some (.inr (some 112)), some (.inl u), some (.inl (0 : Int))] [] Γ I R := by
  have loop : ∀ (N m : Nat), 29 - m = N → m ≤ 29 → PW sc mX11_keep d 0 0 post 18 [some (.inr (some 112)), some (.inl u), some (.inl (m : Int))] [] Γ (cpo I 116 0 118 (29 * u) m) R := by
    intro N
    induction N using Nat.strongRecOn with
    | _ N ih =>
      intro m hN hm
      by_cases hl : m < 29
      · refine PW.iload_n (pc := 18) dX11_keep_18 rfl ?_
        refine PW.bipush (pc := 19) dX11_keep_19 (by decide) ?_
        refine PW.icmp_ge (pc := 21) (tgt := 47) dX11_keep_21 (by decide) (by first | omega | exact rg_of _) (by first | omega | exact rg_of _) (fun c_21 => ?_) (fun c_21 => ?_)
        · omega
        · refine PW.aload_n (pc := 24) dX11_keep_24 rfl ?_
          refine PW.getr (pc := 25) dX11_keep_25 fl_X11_26 M.g112 M.r8 ?_
          refine PW.bipush (pc := 28) dX11_keep_28 (by decide) ?_
          refine PW.iload_n (pc := 30) dX11_keep_30 rfl ?_
          refine PW.imul (pc := 31) dX11_keep_31 ?_
          refine PW.iload_n (pc := 32) dX11_keep_32 rfl ?_
          refine PW.iadd (pc := 33) dX11_keep_33 ?_
          refine PW.aload_n (pc := 34) dX11_keep_34 rfl ?_
          refine PW.getr (pc := 35) dX11_keep_35 fl_X11_20 M.g112 M.r5 ?_
          refine PW.iload_n (pc := 38) dX11_keep_38 rfl ?_
          refine PW.iald (pc := 39) dX11_keep_39 M.g116 (by omega) (by omega) (by omega) ?_
          refine PW.iast (pc := 40) dX11_keep_40 M.g118 (by omega) (by omega) (by omega) ?_
          refine PW.iinc (pc := 41) dX11_keep_41 rfl (by decide) ?_
          refine PW.goto (pc := 44) (tgt := 18) dX11_keep_44 (by decide) ?_
          rw [cpo_step (by decide)]
          · exact ih (29 - (m + 1)) (by omega) (m + 1) rfl (by omega)
          · omega
          · omega
      · obtain rfl : m = 29 := by omega
        refine PW.iload_n (pc := 18) dX11_keep_18 rfl ?_
        refine PW.bipush (pc := 19) dX11_keep_19 (by decide) ?_
        refine PW.icmp_ge (pc := 21) (tgt := 47) dX11_keep_21 (by decide) (by first | omega | exact rg_of _) (by first | omega | exact rg_of _) (fun c_21 => ?_) (fun c_21 => ?_)
        · exact K
        · omega
  have r := loop 29 0 rfl (by omega)
  rw [cpo_0] at r
  exact r
set_option maxRecDepth 100000 in
set_option maxHeartbeats 1000000 in
theorem lp_back (d : Nat) {I : PIm} {post : PPost} {u : Int} (M : MAt Γ R) (u0 : 0 ≤ u ∧ u ≤ 1) (K : PW sc mX11_back d 0 0 post 59 [some (.inr (some 112)), some (.inl u), some (.inl (29 : Int))] [] Γ (cpo I 118 (29 * u) 116 0 29) R) : PW sc mX11_back d 0 0 post 30 [some (.inr (some 112)), some (.inl u), some (.inl (0 : Int))] [] Γ I R := by
  have loop : ∀ (N m : Nat), 29 - m = N → m ≤ 29 → PW sc mX11_back d 0 0 post 30 [some (.inr (some 112)), some (.inl u), some (.inl (m : Int))] [] Γ (cpo I 118 (29 * u) 116 0 m) R := by
    intro N
    induction N using Nat.strongRecOn with
    | _ N ih =>
      intro m hN hm
      by_cases hl : m < 29
      · refine PW.iload_n (pc := 30) dX11_back_30 rfl ?_
        refine PW.bipush (pc := 31) dX11_back_31 (by decide) ?_
        refine PW.icmp_ge (pc := 33) (tgt := 59) dX11_back_33 (by decide) (by first | omega | exact rg_of _) (by first | omega | exact rg_of _) (fun c_33 => ?_) (fun c_33 => ?_)
        · omega
        · refine PW.aload_n (pc := 36) dX11_back_36 rfl ?_
          refine PW.getr (pc := 37) dX11_back_37 fl_X11_20 M.g112 M.r5 ?_
          refine PW.iload_n (pc := 40) dX11_back_40 rfl ?_
          refine PW.aload_n (pc := 41) dX11_back_41 rfl ?_
          refine PW.getr (pc := 42) dX11_back_42 fl_X11_26 M.g112 M.r8 ?_
          refine PW.bipush (pc := 45) dX11_back_45 (by decide) ?_
          refine PW.iload_n (pc := 47) dX11_back_47 rfl ?_
          refine PW.imul (pc := 48) dX11_back_48 ?_
          refine PW.iload_n (pc := 49) dX11_back_49 rfl ?_
          refine PW.iadd (pc := 50) dX11_back_50 ?_
          refine PW.iald (pc := 51) dX11_back_51 M.g118 (by omega) (by omega) (by omega) ?_
          refine PW.iast (pc := 52) dX11_back_52 M.g116 (by omega) (by omega) (by omega) ?_
          refine PW.iinc (pc := 53) dX11_back_53 rfl (by decide) ?_
          refine PW.goto (pc := 56) (tgt := 30) dX11_back_56 (by decide) ?_
          rw [cpo_step (by decide)]
          · exact ih (29 - (m + 1)) (by omega) (m + 1) rfl (by omega)
          · omega
          · omega
      · obtain rfl : m = 29 := by omega
        refine PW.iload_n (pc := 30) dX11_back_30 rfl ?_
        refine PW.bipush (pc := 31) dX11_back_31 (by decide) ?_
        refine PW.icmp_ge (pc := 33) (tgt := 59) dX11_back_33 (by decide) (by first | omega | exact rg_of _) (by first | omega | exact rg_of _) (fun c_33 => ?_) (fun c_33 => ?_)
        · exact K
        · omega
  have r := loop 29 0 rfl (by omega)
  rw [cpo_0] at r
  exact r
set_option maxRecDepth 100000 in
set_option maxHeartbeats 1000000 in
theorem lp_unseenA (d : Nat) {I : PIm} {post : PPost} {x : Int} {o : Option PV} (M : MAt Γ R)  (K : PW sc mX11_unseen d 0 0 post 35 [some (.inr (some 112)), some (.inl x), some (.inl (29 : Int)), o] [] Γ (cpo I 116 0 141 0 29) R) : PW sc mX11_unseen d 0 0 post 11 [some (.inr (some 112)), some (.inl x), some (.inl (0 : Int)), o] [] Γ I R := by
  have loop : ∀ (N m : Nat), 29 - m = N → m ≤ 29 → PW sc mX11_unseen d 0 0 post 11 [some (.inr (some 112)), some (.inl x), some (.inl (m : Int)), o] [] Γ (cpo I 116 0 141 0 m) R := by
    intro N
    induction N using Nat.strongRecOn with
    | _ N ih =>
      intro m hN hm
      by_cases hl : m < 29
      · refine PW.iload_n (pc := 11) dX11_unseen_11 rfl ?_
        refine PW.bipush (pc := 12) dX11_unseen_12 (by decide) ?_
        refine PW.icmp_ge (pc := 14) (tgt := 35) dX11_unseen_14 (by decide) (by first | omega | exact rg_of _) (by first | omega | exact rg_of _) (fun c_14 => ?_) (fun c_14 => ?_)
        · omega
        · refine PW.aload_n (pc := 17) dX11_unseen_17 rfl ?_
          refine PW.getr (pc := 18) dX11_unseen_18 fl_X11_95 M.g112 M.r40 ?_
          refine PW.iload_n (pc := 21) dX11_unseen_21 rfl ?_
          refine PW.aload_n (pc := 22) dX11_unseen_22 rfl ?_
          refine PW.getr (pc := 23) dX11_unseen_23 fl_X11_20 M.g112 M.r5 ?_
          refine PW.iload_n (pc := 26) dX11_unseen_26 rfl ?_
          refine PW.iald (pc := 27) dX11_unseen_27 M.g116 (by omega) (by omega) (by omega) ?_
          refine PW.iast (pc := 28) dX11_unseen_28 M.g141 (by omega) (by omega) (by omega) ?_
          refine PW.iinc (pc := 29) dX11_unseen_29 rfl (by decide) ?_
          refine PW.goto (pc := 32) (tgt := 11) dX11_unseen_32 (by decide) ?_
          rw [cpo_step (by decide)]
          · exact ih (29 - (m + 1)) (by omega) (m + 1) rfl (by omega)
          · omega
          · omega
      · obtain rfl : m = 29 := by omega
        refine PW.iload_n (pc := 11) dX11_unseen_11 rfl ?_
        refine PW.bipush (pc := 12) dX11_unseen_12 (by decide) ?_
        refine PW.icmp_ge (pc := 14) (tgt := 35) dX11_unseen_14 (by decide) (by first | omega | exact rg_of _) (by first | omega | exact rg_of _) (fun c_14 => ?_) (fun c_14 => ?_)
        · exact K
        · omega
  have r := loop 29 0 rfl (by omega)
  rw [cpo_0] at r
  exact r
set_option maxRecDepth 100000 in
set_option maxHeartbeats 1000000 in
theorem lp_unseenB (d : Nat) {I : PIm} {post : PPost} {x u : Int} (M : MAt Γ R) (u0 : 0 ≤ u ∧ u ≤ 3) (K : PW sc mX11_unseen d 0 0 post 76 [some (.inr (some 112)), some (.inl x), some (.inl u), some (.inl (29 : Int))] [] Γ (cpo I 121 (29 * u) 116 0 29) R) : PW sc mX11_unseen d 0 0 post 47 [some (.inr (some 112)), some (.inl x), some (.inl u), some (.inl (0 : Int))] [] Γ I R := by
  have loop : ∀ (N m : Nat), 29 - m = N → m ≤ 29 → PW sc mX11_unseen d 0 0 post 47 [some (.inr (some 112)), some (.inl x), some (.inl u), some (.inl (m : Int))] [] Γ (cpo I 121 (29 * u) 116 0 m) R := by
    intro N
    induction N using Nat.strongRecOn with
    | _ N ih =>
      intro m hN hm
      by_cases hl : m < 29
      · refine PW.iload_n (pc := 47) dX11_unseen_47 rfl ?_
        refine PW.bipush (pc := 48) dX11_unseen_48 (by decide) ?_
        refine PW.icmp_ge (pc := 50) (tgt := 76) dX11_unseen_50 (by decide) (by first | omega | exact rg_of _) (by first | omega | exact rg_of _) (fun c_50 => ?_) (fun c_50 => ?_)
        · omega
        · refine PW.aload_n (pc := 53) dX11_unseen_53 rfl ?_
          refine PW.getr (pc := 54) dX11_unseen_54 fl_X11_20 M.g112 M.r5 ?_
          refine PW.iload_n (pc := 57) dX11_unseen_57 rfl ?_
          refine PW.aload_n (pc := 58) dX11_unseen_58 rfl ?_
          refine PW.getr (pc := 59) dX11_unseen_59 fl_X11_35 M.g112 M.r12 ?_
          refine PW.bipush (pc := 62) dX11_unseen_62 (by decide) ?_
          refine PW.iload_n (pc := 64) dX11_unseen_64 rfl ?_
          refine PW.imul (pc := 65) dX11_unseen_65 ?_
          refine PW.iload_n (pc := 66) dX11_unseen_66 rfl ?_
          refine PW.iadd (pc := 67) dX11_unseen_67 ?_
          refine PW.iald (pc := 68) dX11_unseen_68 M.g121 (by omega) (by omega) (by omega) ?_
          refine PW.iast (pc := 69) dX11_unseen_69 M.g116 (by omega) (by omega) (by omega) ?_
          refine PW.iinc (pc := 70) dX11_unseen_70 rfl (by decide) ?_
          refine PW.goto (pc := 73) (tgt := 47) dX11_unseen_73 (by decide) ?_
          rw [cpo_step (by decide)]
          · exact ih (29 - (m + 1)) (by omega) (m + 1) rfl (by omega)
          · omega
          · omega
      · obtain rfl : m = 29 := by omega
        refine PW.iload_n (pc := 47) dX11_unseen_47 rfl ?_
        refine PW.bipush (pc := 48) dX11_unseen_48 (by decide) ?_
        refine PW.icmp_ge (pc := 50) (tgt := 76) dX11_unseen_50 (by decide) (by first | omega | exact rg_of _) (by first | omega | exact rg_of _) (fun c_50 => ?_) (fun c_50 => ?_)
        · exact K
        · omega
  have r := loop 29 0 rfl (by omega)
  rw [cpo_0] at r
  exact r
set_option maxRecDepth 100000 in
set_option maxHeartbeats 1000000 in
theorem lp_unseenC (d : Nat) {I : PIm} {post : PPost} {x : Int} {o : Option PV} (M : MAt Γ R)  (K : PW sc mX11_unseen d 0 0 post 155 [some (.inr (some 112)), some (.inl x), some (.inl (29 : Int)), o] [] Γ (cpo I 141 0 116 0 29) R) : PW sc mX11_unseen d 0 0 post 131 [some (.inr (some 112)), some (.inl x), some (.inl (0 : Int)), o] [] Γ I R := by
  have loop : ∀ (N m : Nat), 29 - m = N → m ≤ 29 → PW sc mX11_unseen d 0 0 post 131 [some (.inr (some 112)), some (.inl x), some (.inl (m : Int)), o] [] Γ (cpo I 141 0 116 0 m) R := by
    intro N
    induction N using Nat.strongRecOn with
    | _ N ih =>
      intro m hN hm
      by_cases hl : m < 29
      · refine PW.iload_n (pc := 131) dX11_unseen_131 rfl ?_
        refine PW.bipush (pc := 132) dX11_unseen_132 (by decide) ?_
        refine PW.icmp_ge (pc := 134) (tgt := 155) dX11_unseen_134 (by decide) (by first | omega | exact rg_of _) (by first | omega | exact rg_of _) (fun c_134 => ?_) (fun c_134 => ?_)
        · omega
        · refine PW.aload_n (pc := 137) dX11_unseen_137 rfl ?_
          refine PW.getr (pc := 138) dX11_unseen_138 fl_X11_20 M.g112 M.r5 ?_
          refine PW.iload_n (pc := 141) dX11_unseen_141 rfl ?_
          refine PW.aload_n (pc := 142) dX11_unseen_142 rfl ?_
          refine PW.getr (pc := 143) dX11_unseen_143 fl_X11_95 M.g112 M.r40 ?_
          refine PW.iload_n (pc := 146) dX11_unseen_146 rfl ?_
          refine PW.iald (pc := 147) dX11_unseen_147 M.g141 (by omega) (by omega) (by omega) ?_
          refine PW.iast (pc := 148) dX11_unseen_148 M.g116 (by omega) (by omega) (by omega) ?_
          refine PW.iinc (pc := 149) dX11_unseen_149 rfl (by decide) ?_
          refine PW.goto (pc := 152) (tgt := 131) dX11_unseen_152 (by decide) ?_
          rw [cpo_step (by decide)]
          · exact ih (29 - (m + 1)) (by omega) (m + 1) rfl (by omega)
          · omega
          · omega
      · obtain rfl : m = 29 := by omega
        refine PW.iload_n (pc := 131) dX11_unseen_131 rfl ?_
        refine PW.bipush (pc := 132) dX11_unseen_132 (by decide) ?_
        refine PW.icmp_ge (pc := 134) (tgt := 155) dX11_unseen_134 (by decide) (by first | omega | exact rg_of _) (by first | omega | exact rg_of _) (fun c_134 => ?_) (fun c_134 => ?_)
        · exact K
        · omega
  have r := loop 29 0 rfl (by omega)
  rw [cpo_0] at r
  exact r
set_option maxRecDepth 100000 in
set_option maxHeartbeats 1000000 in
theorem lp_brokenA (d : Nat) {I : PIm} {post : PPost} {x : Int} {o : Option PV} (M : MAt Γ R)  (K : PW sc mX11_broken d 0 0 post 38 [some (.inr (some 112)), some (.inl x), some (.inl (29 : Int)), o] [] Γ (cpo I 116 0 141 0 29) R) : PW sc mX11_broken d 0 0 post 14 [some (.inr (some 112)), some (.inl x), some (.inl (0 : Int)), o] [] Γ I R := by
  have loop : ∀ (N m : Nat), 29 - m = N → m ≤ 29 → PW sc mX11_broken d 0 0 post 14 [some (.inr (some 112)), some (.inl x), some (.inl (m : Int)), o] [] Γ (cpo I 116 0 141 0 m) R := by
    intro N
    induction N using Nat.strongRecOn with
    | _ N ih =>
      intro m hN hm
      by_cases hl : m < 29
      · refine PW.iload_n (pc := 14) dX11_broken_14 rfl ?_
        refine PW.bipush (pc := 15) dX11_broken_15 (by decide) ?_
        refine PW.icmp_ge (pc := 17) (tgt := 38) dX11_broken_17 (by decide) (by first | omega | exact rg_of _) (by first | omega | exact rg_of _) (fun c_17 => ?_) (fun c_17 => ?_)
        · omega
        · refine PW.aload_n (pc := 20) dX11_broken_20 rfl ?_
          refine PW.getr (pc := 21) dX11_broken_21 fl_X11_95 M.g112 M.r40 ?_
          refine PW.iload_n (pc := 24) dX11_broken_24 rfl ?_
          refine PW.aload_n (pc := 25) dX11_broken_25 rfl ?_
          refine PW.getr (pc := 26) dX11_broken_26 fl_X11_20 M.g112 M.r5 ?_
          refine PW.iload_n (pc := 29) dX11_broken_29 rfl ?_
          refine PW.iald (pc := 30) dX11_broken_30 M.g116 (by omega) (by omega) (by omega) ?_
          refine PW.iast (pc := 31) dX11_broken_31 M.g141 (by omega) (by omega) (by omega) ?_
          refine PW.iinc (pc := 32) dX11_broken_32 rfl (by decide) ?_
          refine PW.goto (pc := 35) (tgt := 14) dX11_broken_35 (by decide) ?_
          rw [cpo_step (by decide)]
          · exact ih (29 - (m + 1)) (by omega) (m + 1) rfl (by omega)
          · omega
          · omega
      · obtain rfl : m = 29 := by omega
        refine PW.iload_n (pc := 14) dX11_broken_14 rfl ?_
        refine PW.bipush (pc := 15) dX11_broken_15 (by decide) ?_
        refine PW.icmp_ge (pc := 17) (tgt := 38) dX11_broken_17 (by decide) (by first | omega | exact rg_of _) (by first | omega | exact rg_of _) (fun c_17 => ?_) (fun c_17 => ?_)
        · exact K
        · omega
  have r := loop 29 0 rfl (by omega)
  rw [cpo_0] at r
  exact r
set_option maxRecDepth 100000 in
set_option maxHeartbeats 1000000 in
theorem lp_brokenB (d : Nat) {I : PIm} {post : PPost} {x y : Int} (M : MAt Γ R)  (K : PW sc mX11_broken d 0 0 post 69 [some (.inr (some 112)), some (.inl x), some (.inl y), some (.inl (29 : Int))] [] Γ (cpo I 141 0 116 0 29) R) : PW sc mX11_broken d 0 0 post 45 [some (.inr (some 112)), some (.inl x), some (.inl y), some (.inl (0 : Int))] [] Γ I R := by
  have loop : ∀ (N m : Nat), 29 - m = N → m ≤ 29 → PW sc mX11_broken d 0 0 post 45 [some (.inr (some 112)), some (.inl x), some (.inl y), some (.inl (m : Int))] [] Γ (cpo I 141 0 116 0 m) R := by
    intro N
    induction N using Nat.strongRecOn with
    | _ N ih =>
      intro m hN hm
      by_cases hl : m < 29
      · refine PW.iload_n (pc := 45) dX11_broken_45 rfl ?_
        refine PW.bipush (pc := 46) dX11_broken_46 (by decide) ?_
        refine PW.icmp_ge (pc := 48) (tgt := 69) dX11_broken_48 (by decide) (by first | omega | exact rg_of _) (by first | omega | exact rg_of _) (fun c_48 => ?_) (fun c_48 => ?_)
        · omega
        · refine PW.aload_n (pc := 51) dX11_broken_51 rfl ?_
          refine PW.getr (pc := 52) dX11_broken_52 fl_X11_20 M.g112 M.r5 ?_
          refine PW.iload_n (pc := 55) dX11_broken_55 rfl ?_
          refine PW.aload_n (pc := 56) dX11_broken_56 rfl ?_
          refine PW.getr (pc := 57) dX11_broken_57 fl_X11_95 M.g112 M.r40 ?_
          refine PW.iload_n (pc := 60) dX11_broken_60 rfl ?_
          refine PW.iald (pc := 61) dX11_broken_61 M.g141 (by omega) (by omega) (by omega) ?_
          refine PW.iast (pc := 62) dX11_broken_62 M.g116 (by omega) (by omega) (by omega) ?_
          refine PW.iinc (pc := 63) dX11_broken_63 rfl (by decide) ?_
          refine PW.goto (pc := 66) (tgt := 45) dX11_broken_66 (by decide) ?_
          rw [cpo_step (by decide)]
          · exact ih (29 - (m + 1)) (by omega) (m + 1) rfl (by omega)
          · omega
          · omega
      · obtain rfl : m = 29 := by omega
        refine PW.iload_n (pc := 45) dX11_broken_45 rfl ?_
        refine PW.bipush (pc := 46) dX11_broken_46 (by decide) ?_
        refine PW.icmp_ge (pc := 48) (tgt := 69) dX11_broken_48 (by decide) (by first | omega | exact rg_of _) (by first | omega | exact rg_of _) (fun c_48 => ?_) (fun c_48 => ?_)
        · exact K
        · omega
  have r := loop 29 0 rfl (by omega)
  rw [cpo_0] at r
  exact r
end MROWS
