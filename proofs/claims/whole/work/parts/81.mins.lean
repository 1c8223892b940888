section MINS
variable {sc : PSc} {Γ : List PTy} {R : PRm}
set_option maxRecDepth 100000 in
set_option maxHeartbeats 1000000 in
theorem c_X11_readsInstruction (d : Nat) {I : PIm} {tb : Int → Tm} {tx : Int → Int} {n p b : Int} {σ : PS} {k : Nat} (M : MAt Γ R) (ht : I 127 = tx) (hn : I 112 20 = n) (hp : I 112 22 = p) (hb : I 112 23 = b) (hx : TxOK tx n) (h0 : 0 ≤ p) (h1 : p ≤ n) (hk : k ≤ 2) (PI : MPI I σ tb p) : PC sc mX11_readsInstruction (d + 1) 0 0 [.inr (some 112), .inl (k : Int)] Γ I R (MIp Γ R I (if 6 ≤ σ.2.2 then (none, b) else pIns0 tx n σ k p)) := by
  obtain ⟨PF, ⟨P1, P2, P3⟩, PT, PU, PZ⟩ := id PI
  have hn100 := hx.1
  refine PC.ofPW (by decide) (Nat.le_of_ble_eq_true rfl) ?_
  by_cases h6 : 6 ≤ σ.2.2
  · rw [if_pos h6]
    refine PW.aload_n (pc := 0) dX11_readsInstruction_0 rfl ?_
    refine PW.geti (pc := 1) dX11_readsInstruction_1 fl_X11_148 (by decide) M.g112 ?_
    rw [P1]
    refine PW.bipush (pc := 4) dX11_readsInstruction_4 (by decide) ?_
    refine PW.icmp_ne (pc := 6) (tgt := 11) dX11_readsInstruction_6 (by decide) (by first | omega | exact rg_of _) (by first | omega | exact rg_of _) (fun c_6 => ?_) (fun c_6 => ?_)
    · omega
    · refine PW.iconst (pc := 9) dX11_readsInstruction_9 ?_
      exact PW.zreturn (pc := 10) dX11_readsInstruction_10 rfl (by first | exact Or.inl rfl | exact Or.inr rfl | omega) (⟨rfl, rfl, fun _ _ _ => rfl, rfl, hb⟩)
  · rw [if_neg h6]
    obtain ⟨res, hres⟩ : ∃ res, pIns0 tx n σ k p = res := ⟨_, rfl⟩
    rw [hres]
    have stepZ : ∀ (J : PIm) (j : Int), 1 ≤ j → j ≤ 3 → ((k : Int) ≤ 0 ∨ (k : Int) + 2 ≤ j) → PW sc mX11_readsInstruction (d + 1) 0 0 (MIp Γ R I res) 27 [some (.inr (some 112)), some (.inl (k : Int)), some (.inl (4 * (σ.2.2 : Int))), some (.inl (j + 1))] [] Γ (pw_up J 131 (4 * (σ.2.2 : Int) + j) 0) R → PW sc mX11_readsInstruction (d + 1) 0 0 (MIp Γ R I res) 27 [some (.inr (some 112)), some (.inl (k : Int)), some (.inl (4 * (σ.2.2 : Int))), some (.inl j)] [] Γ J R := by
      intro J j j1 j3 hj K
      refine PW.iload_n (pc := 27) dX11_readsInstruction_27 rfl ?_
      refine PW.iconst (pc := 28) dX11_readsInstruction_28 ?_
      refine PW.icmp_ge (pc := 29) (tgt := 93) dX11_readsInstruction_29 (by decide) (by first | omega | exact rg_of _) (by first | omega | exact rg_of _) (fun c_29 => ?_) (fun c_29 => ?_)
      · omega
      · refine PW.aload_n (pc := 32) dX11_readsInstruction_32 rfl ?_
        refine PW.getr (pc := 33) dX11_readsInstruction_33 fl_X11_65 M.g112 M.r30 ?_
        refine PW.iload_n (pc := 36) dX11_readsInstruction_36 rfl ?_
        refine PW.iload_n (pc := 37) dX11_readsInstruction_37 rfl ?_
        refine PW.iadd (pc := 38) dX11_readsInstruction_38 ?_
        refine PW.iconst (pc := 39) dX11_readsInstruction_39 ?_
        refine PW.iast (pc := 40) dX11_readsInstruction_40 M.g131 (by omega) (by omega) (by omega) ?_
        refine PW.iload_n (pc := 41) dX11_readsInstruction_41 rfl ?_
        refine PW.if_le (pc := 42) (tgt := 87) dX11_readsInstruction_42 (by decide) (by first | omega | exact rg_of _) (fun c_42 => ?_) (fun c_42 => ?_)
        · refine PW.iinc (pc := 87) dX11_readsInstruction_87 rfl (by decide) ?_
          refine PW.goto (pc := 90) (tgt := 27) dX11_readsInstruction_90 (by decide) ?_
          exact K
        · refine PW.iload_n (pc := 45) dX11_readsInstruction_45 rfl ?_
          refine PW.iload_n (pc := 46) dX11_readsInstruction_46 rfl ?_
          refine PW.iconst (pc := 47) dX11_readsInstruction_47 ?_
          refine PW.iadd (pc := 48) dX11_readsInstruction_48 ?_
          refine PW.icmp_ge (pc := 49) (tgt := 87) dX11_readsInstruction_49 (by decide) (by first | omega | exact rg_of _) (by first | omega | exact rg_of _) (fun c_49 => ?_) (fun c_49 => ?_)
          · refine PW.iinc (pc := 87) dX11_readsInstruction_87 rfl (by decide) ?_
            refine PW.goto (pc := 90) (tgt := 27) dX11_readsInstruction_90 (by decide) ?_
            exact K
          · omega
    have take : ∀ (J : PIm) (p' j : Int), (∀ q z, ¬ ((q = 112 ∧ (22 ≤ z ∧ z ≤ 24)) ∨ q = 131) → J q z = I q z) → J 112 22 = p' → 0 ≤ p' → p' ≤ n → PC sc mX11_takes d 0 0 [.inr (some 112)] Γ (pw_up J 131 (4 * (σ.2.2 : Int) + j) 0) R (fun v Γ' I' R' => v = none ∧ Γ' = Γ ∧ R' = R ∧ Tks (pw_up J 131 (4 * (σ.2.2 : Int) + j) 0) I' tx n p') := by
      intro J p' j fr e22 q0 q1
      exact c_X11_takes (sc := sc) (Γ := Γ) (R := R) d M (by rw [← ht]; funext z; rw [pw_up_other (by omega), fr _ _ (by omega)]) (by rw [pw_up_other (by omega), fr _ _ (by omega)]; exact hn) (by rw [pw_up_other (by omega)]; exact e22) hx q0 q1
    have stepD : ∀ (J : PIm) (p' j : Int), 1 ≤ j → j ≤ 3 → 0 < (k : Int) → j < (k : Int) + 2 → (∀ q z, ¬ ((q = 112 ∧ (22 ≤ z ∧ z ≤ 24)) ∨ q = 131) → J q z = I q z) → J 112 22 = p' → 0 ≤ p' → p' ≤ n → (48 ≤ tok tx n p' ∧ tok tx n p' ≤ 51) → (∀ J' : PIm, J' 112 22 = skp tx n p' + 1 → J' 131 (4 * (σ.2.2 : Int) + j) = tok tx n p' - 48 → (∀ q z, ¬ ((q = 112 ∧ (22 ≤ z ∧ z ≤ 24)) ∨ (q = 131 ∧ z = 4 * (σ.2.2 : Int) + j)) → J' q z = J q z) → PW sc mX11_readsInstruction (d + 1) 0 0 (MIp Γ R I res) 27 [some (.inr (some 112)), some (.inl (k : Int)), some (.inl (4 * (σ.2.2 : Int))), some (.inl (j + 1))] [] Γ J' R) → PW sc mX11_readsInstruction (d + 1) 0 0 (MIp Γ R I res) 27 [some (.inr (some 112)), some (.inl (k : Int)), some (.inl (4 * (σ.2.2 : Int))), some (.inl j)] [] Γ J R := by
      intro J p' j j1 j3 k0 jk fr e22 q0 q1 hd K
      have hlt := tok_lt (tx := tx) (n := n) (p := p') (by omega)
      refine PW.iload_n (pc := 27) dX11_readsInstruction_27 rfl ?_
      refine PW.iconst (pc := 28) dX11_readsInstruction_28 ?_
      refine PW.icmp_ge (pc := 29) (tgt := 93) dX11_readsInstruction_29 (by decide) (by first | omega | exact rg_of _) (by first | omega | exact rg_of _) (fun c_29 => ?_) (fun c_29 => ?_)
      · omega
      · refine PW.aload_n (pc := 32) dX11_readsInstruction_32 rfl ?_
        refine PW.getr (pc := 33) dX11_readsInstruction_33 fl_X11_65 M.g112 M.r30 ?_
        refine PW.iload_n (pc := 36) dX11_readsInstruction_36 rfl ?_
        refine PW.iload_n (pc := 37) dX11_readsInstruction_37 rfl ?_
        refine PW.iadd (pc := 38) dX11_readsInstruction_38 ?_
        refine PW.iconst (pc := 39) dX11_readsInstruction_39 ?_
        refine PW.iast (pc := 40) dX11_readsInstruction_40 M.g131 (by omega) (by omega) (by omega) ?_
        refine PW.iload_n (pc := 41) dX11_readsInstruction_41 rfl ?_
        refine PW.if_le (pc := 42) (tgt := 87) dX11_readsInstruction_42 (by decide) (by first | omega | exact rg_of _) (fun c_42 => ?_) (fun c_42 => ?_)
        · omega
        · refine PW.iload_n (pc := 45) dX11_readsInstruction_45 rfl ?_
          refine PW.iload_n (pc := 46) dX11_readsInstruction_46 rfl ?_
          refine PW.iconst (pc := 47) dX11_readsInstruction_47 ?_
          refine PW.iadd (pc := 48) dX11_readsInstruction_48 ?_
          refine PW.icmp_ge (pc := 49) (tgt := 87) dX11_readsInstruction_49 (by decide) (by first | omega | exact rg_of _) (by first | omega | exact rg_of _) (fun c_49 => ?_) (fun c_49 => ?_)
          · omega
          · refine PW.aload_n (pc := 52) dX11_readsInstruction_52 rfl ?_
            refine PW.invV0 (pc := 53) dX11_readsInstruction_53 mv_X11_138 (take J p' j fr e22 q0 q1) M.g112 rfl rfl (Nat.le_of_ble_eq_true rfl) ?_
            (rintro v Γ' J2 R' ⟨rfl, rfl, rfl, k1, k2, k3, k4⟩)
            rw [show nxt tx n p' = skp tx n p' + 1 from if_pos hlt] at k1
            refine PW.aload_n (pc := 56) dX11_readsInstruction_56 rfl ?_
            refine PW.geti (pc := 57) dX11_readsInstruction_57 fl_X11_135 (by decide) M.g112 ?_
            rw [k3]
            refine PW.bipush (pc := 60) dX11_readsInstruction_60 (by decide) ?_
            refine PW.bipush (pc := 62) dX11_readsInstruction_62 (by decide) ?_
            refine PW.invS0x (pc := 64) dX11_readsInstruction_64 ms_X11_122 (c_X11_in _ (by omega) (by omega) (by omega)) rfl rfl (Nat.le_of_ble_eq_true rfl) ?_
            refine PW.if_ne (pc := 67) (tgt := 72) dX11_readsInstruction_67 (by decide) (rg_bi _) (fun c_67 => ?_) (fun c_67 => ?_)
            · refine PW.aload_n (pc := 72) dX11_readsInstruction_72 rfl ?_
              refine PW.getr (pc := 73) dX11_readsInstruction_73 fl_X11_65 M.g112 M.r30 ?_
              refine PW.iload_n (pc := 76) dX11_readsInstruction_76 rfl ?_
              refine PW.iload_n (pc := 77) dX11_readsInstruction_77 rfl ?_
              refine PW.iadd (pc := 78) dX11_readsInstruction_78 ?_
              refine PW.aload_n (pc := 79) dX11_readsInstruction_79 rfl ?_
              refine PW.geti (pc := 80) dX11_readsInstruction_80 fl_X11_135 (by decide) M.g112 ?_
              rw [k3]
              refine PW.bipush (pc := 83) dX11_readsInstruction_83 (by decide) ?_
              refine PW.isub (pc := 85) dX11_readsInstruction_85 ?_
              refine PW.iast (pc := 86) dX11_readsInstruction_86 M.g131 (by omega) (by omega) (by omega) ?_
              refine PW.iinc (pc := 87) dX11_readsInstruction_87 rfl (by decide) ?_
              refine PW.goto (pc := 90) (tgt := 27) dX11_readsInstruction_90 (by decide) ?_
              exact K _ (by rw [pw_up_other (by omega)]; exact k1) (pw_up_self _ _ _ _) (fun q z g => by rw [pw_up_other (by omega), k4 q z (by omega), pw_up_other (by omega)])
            · exact absurd hd (bi0 c_67)
    have stepB : ∀ (J : PIm) (p' j : Int), 1 ≤ j → j ≤ 3 → 0 < (k : Int) → j < (k : Int) + 2 → (∀ q z, ¬ ((q = 112 ∧ (22 ≤ z ∧ z ≤ 24)) ∨ q = 131) → J q z = I q z) → J 112 22 = p' → 0 ≤ p' → p' ≤ n → ¬ (48 ≤ tok tx n p' ∧ tok tx n p' ≤ 51) → res = (none, skp tx n p') → PW sc mX11_readsInstruction (d + 1) 0 0 (MIp Γ R I res) 27 [some (.inr (some 112)), some (.inl (k : Int)), some (.inl (4 * (σ.2.2 : Int))), some (.inl j)] [] Γ J R := by
      intro J p' j j1 j3 k0 jk fr e22 q0 q1 hd hre
      rw [hre]
      have htk := tok_rg hx q0 q1
      refine PW.iload_n (pc := 27) dX11_readsInstruction_27 rfl ?_
      refine PW.iconst (pc := 28) dX11_readsInstruction_28 ?_
      refine PW.icmp_ge (pc := 29) (tgt := 93) dX11_readsInstruction_29 (by decide) (by first | omega | exact rg_of _) (by first | omega | exact rg_of _) (fun c_29 => ?_) (fun c_29 => ?_)
      · omega
      · refine PW.aload_n (pc := 32) dX11_readsInstruction_32 rfl ?_
        refine PW.getr (pc := 33) dX11_readsInstruction_33 fl_X11_65 M.g112 M.r30 ?_
        refine PW.iload_n (pc := 36) dX11_readsInstruction_36 rfl ?_
        refine PW.iload_n (pc := 37) dX11_readsInstruction_37 rfl ?_
        refine PW.iadd (pc := 38) dX11_readsInstruction_38 ?_
        refine PW.iconst (pc := 39) dX11_readsInstruction_39 ?_
        refine PW.iast (pc := 40) dX11_readsInstruction_40 M.g131 (by omega) (by omega) (by omega) ?_
        refine PW.iload_n (pc := 41) dX11_readsInstruction_41 rfl ?_
        refine PW.if_le (pc := 42) (tgt := 87) dX11_readsInstruction_42 (by decide) (by first | omega | exact rg_of _) (fun c_42 => ?_) (fun c_42 => ?_)
        · omega
        · refine PW.iload_n (pc := 45) dX11_readsInstruction_45 rfl ?_
          refine PW.iload_n (pc := 46) dX11_readsInstruction_46 rfl ?_
          refine PW.iconst (pc := 47) dX11_readsInstruction_47 ?_
          refine PW.iadd (pc := 48) dX11_readsInstruction_48 ?_
          refine PW.icmp_ge (pc := 49) (tgt := 87) dX11_readsInstruction_49 (by decide) (by first | omega | exact rg_of _) (by first | omega | exact rg_of _) (fun c_49 => ?_) (fun c_49 => ?_)
          · omega
          · refine PW.aload_n (pc := 52) dX11_readsInstruction_52 rfl ?_
            refine PW.invV0 (pc := 53) dX11_readsInstruction_53 mv_X11_138 (take J p' j fr e22 q0 q1) M.g112 rfl rfl (Nat.le_of_ble_eq_true rfl) ?_
            (rintro v Γ' J2 R' ⟨rfl, rfl, rfl, k1, k2, k3, k4⟩)
            refine PW.aload_n (pc := 56) dX11_readsInstruction_56 rfl ?_
            refine PW.geti (pc := 57) dX11_readsInstruction_57 fl_X11_135 (by decide) M.g112 ?_
            rw [k3]
            refine PW.bipush (pc := 60) dX11_readsInstruction_60 (by decide) ?_
            refine PW.bipush (pc := 62) dX11_readsInstruction_62 (by decide) ?_
            refine PW.invS0x (pc := 64) dX11_readsInstruction_64 ms_X11_122 (c_X11_in _ (by omega) (by omega) (by omega)) rfl rfl (Nat.le_of_ble_eq_true rfl) ?_
            refine PW.if_ne (pc := 67) (tgt := 72) dX11_readsInstruction_67 (by decide) (rg_bi _) (fun c_67 => ?_) (fun c_67 => ?_)
            · exact absurd (bi1 c_67) hd
            · refine PW.iconst (pc := 70) dX11_readsInstruction_70 ?_
              exact PW.zreturn (pc := 71) dX11_readsInstruction_71 rfl (by first | exact Or.inl rfl | exact Or.inr rfl | omega) (⟨rfl, rfl, fun q z g => by rw [k4 q z (by omega), pw_up_other (by omega), fr q z (by omega)], rfl, k2⟩)
    have fin : ∀ (J : PIm) (D S T p1 : Int), (0 ≤ D ∧ D ≤ 3) → (0 ≤ S ∧ S ≤ 3) → (0 ≤ T ∧ T ≤ 3) → (∀ q z, ¬ ((q = 112 ∧ (22 ≤ z ∧ z ≤ 24)) ∨ (q = 131 ∧ 4 * (σ.2.2 : Int) ≤ z)) → J q z = I q z) → J 131 (4 * (σ.2.2 : Int)) = k → J 131 (4 * (σ.2.2 : Int) + 1) = D → J 131 (4 * (σ.2.2 : Int) + 2) = S → J 131 (4 * (σ.2.2 : Int) + 3) = T → J 112 22 = p1 → p ≤ p1 → res = (some (σ.1, ppush σ.2.1 σ.2.2 (64 * (k : Int) + 16 * D + 4 * S + T), σ.2.2 + 1), p1) → PW sc mX11_readsInstruction (d + 1) 0 0 (MIp Γ R I res) 27 [some (.inr (some 112)), some (.inl (k : Int)), some (.inl (4 * (σ.2.2 : Int))), some (.inl 4)] [] Γ J R := by
      intro J D S T p1 hD hS hT fr eK eD eS eT e22 hpp hre
      rw [hre]
      obtain ⟨g0, g1, g2, g3, g4⟩ := digs hk hD hS hT
      have y29 : J 112 29 = σ.2.2 := by rw [fr _ _ (by omega)]; exact P1
      refine PW.iload_n (pc := 27) dX11_readsInstruction_27 rfl ?_
      refine PW.iconst (pc := 28) dX11_readsInstruction_28 ?_
      refine PW.icmp_ge (pc := 29) (tgt := 93) dX11_readsInstruction_29 (by decide) (by first | omega | exact rg_of _) (by first | omega | exact rg_of _) (fun c_29 => ?_) (fun c_29 => ?_)
      · refine PW.aload_n (pc := 93) dX11_readsInstruction_93 rfl ?_
        refine PW.dup (pc := 94) dX11_readsInstruction_94 ?_
        refine PW.geti (pc := 95) dX11_readsInstruction_95 fl_X11_148 (by decide) M.g112 ?_
        rw [y29]
        refine PW.iconst (pc := 98) dX11_readsInstruction_98 ?_
        refine PW.iadd (pc := 99) dX11_readsInstruction_99 ?_
        refine PW.puti (pc := 100) dX11_readsInstruction_100 fl_X11_148 M.g112 ?_
        refine PW.iconst (pc := 103) dX11_readsInstruction_103 ?_
        exact PW.zreturn (pc := 104) dX11_readsInstruction_104 rfl (by first | exact Or.inl rfl | exact Or.inr rfl | omega) (by
        have z6 : ∀ q z, ¬ (q = 112 ∧ z = 29) → pw_up J 112 29 ((σ.2.2 : Int) + 1) q z = J q z := fun q z g => pw_up_other g
        have s6 : pw_up J 112 29 ((σ.2.2 : Int) + 1) 112 29 = (σ.2.2 : Int) + 1 := pw_up_self _ _ _ _
        generalize pw_up J 112 29 ((σ.2.2 : Int) + 1) = J6 at z6 s6
        have fr6 : ∀ q z, ¬ ((q = 112 ∧ ((22 ≤ z ∧ z ≤ 24) ∨ z = 29)) ∨ (q = 131 ∧ 4 * (σ.2.2 : Int) ≤ z)) → J6 q z = I q z := fun q z g => by rw [z6 q z (by omega), fr q z (by omega)]
        have e13 := fr6 112 13 (by omega)
        obtain ⟨F1, F2, F3⟩ := PF
        refine ⟨rfl, rfl, fun q z g => fr6 q z (by omega), rfl, by rw [z6 _ _ (by omega)]; exact e22, tb, ⟨by rw [fr6 _ _ (by omega)]; exact F1, F2, fun j j0 j1 => ?_⟩, ⟨s6, by show σ.2.2 + 1 ≤ 6; omega, fun j j0 j1 => ?_⟩, ?_, ?_, ?_⟩
        · rw [e13, fr6 128 j (by omega), fr6 129 j (by omega), fr6 130 j (by omega)]
          exact F3 j j0 j1
        · have j1' : j < (σ.2.2 : Int) + 1 := j1
          show okc (ppush σ.2.1 σ.2.2 _ j) ∧ J6 131 (4 * j) = kd (ppush σ.2.1 σ.2.2 _ j) ∧ J6 131 (4 * j + 1) = dd (ppush σ.2.1 σ.2.2 _ j) ∧ J6 131 (4 * j + 2) = ss (ppush σ.2.1 σ.2.2 _ j) ∧ J6 131 (4 * j + 3) = tt (ppush σ.2.1 σ.2.2 _ j)
          unfold ppush
          by_cases q : j = (σ.2.2 : Int)
          · subst q
            rw [if_pos rfl, g1, g2, g3, g4, z6 _ _ (by omega), z6 _ _ (by omega), z6 _ _ (by omega), z6 _ _ (by omega)]
            exact ⟨g0, eK, eD, eS, eT⟩
          · rw [if_neg q, fr6 131 _ (by omega), fr6 131 _ (by omega), fr6 131 _ (by omega), fr6 131 _ (by omega)]
            exact P3 j j0 (by omega)
        · rw [e13]; exact PT.cg (fun q a b j _ _ => fr6 q j (by omega))
        · rw [e13]; exact PU
        · rw [e13]; dsimp only; omega)
      · omega
    have m0 : ∀ q z, ¬ (q = 131 ∧ z = 4 * (σ.2.2 : Int)) → pw_up I 131 (4 * (σ.2.2 : Int)) (k : Int) q z = I q z := fun q z g => pw_up_other g
    have s0 : pw_up I 131 (4 * (σ.2.2 : Int)) (k : Int) 131 (4 * (σ.2.2 : Int)) = k := pw_up_self _ _ _ _
    have start : PW sc mX11_readsInstruction (d + 1) 0 0 (MIp Γ R I res) 27 [some (.inr (some 112)), some (.inl (k : Int)), some (.inl (4 * (σ.2.2 : Int))), some (.inl 1)] [] Γ (pw_up I 131 (4 * (σ.2.2 : Int)) (k : Int)) R := by
      generalize pw_up I 131 (4 * (σ.2.2 : Int)) (k : Int) = J0 at m0 s0 ⊢
      have e0 : J0 112 22 = p := by rw [m0 _ _ (by omega)]; exact hp
      rcases (show k = 0 ∨ k = 1 ∨ k = 2 by omega) with q | q | q
      · refine stepZ _ 1 (by omega) (by omega) (by omega) (stepZ _ 2 (by omega) (by omega) (by omega) (stepZ _ 3 (by omega) (by omega) (by omega) (fin _ 0 0 0 p (by omega) (by omega) (by omega) (fun q z g => by rw [pw_up_other (by omega), pw_up_other (by omega), pw_up_other (by omega), m0 q z (by omega)]) ?_ ?_ ?_ (pw_up_self _ _ _ _) ?_ (Int.le_refl _) ?_)))
        · rw [pw_up_other (by omega), pw_up_other (by omega), pw_up_other (by omega)]; exact s0
        · rw [pw_up_other (by omega), pw_up_other (by omega), pw_up_self]
        · rw [pw_up_other (by omega), pw_up_self]
        · rw [pw_up_other (by omega), pw_up_other (by omega), pw_up_other (by omega)]; exact e0
        · subst q
          rw [← hres]; rfl
      · subst q
        have er : pIns0 tx n σ 1 p = (match pF tx n 2 p 0 with
          | (none, f) => (none, f)
          | (some v, p1) => (some (σ.1, ppush σ.2.1 σ.2.2 (64 * ((1 : Nat) : Int) + v * 4), σ.2.2 + 1), p1)) := rfl
        rw [er] at hres
        have sk1 := skp_ge tx h1
        by_cases d1 : 48 ≤ tok tx n p ∧ tok tx n p ≤ 51
        · rw [pF, if_pos d1] at hres
          have l1 := tok_lt (tx := tx) (n := n) (p := p) (by omega)
          have sk2 := skp_ge tx (n := n) (p := skp tx n p + 1) (by omega)
          refine stepD J0 p 1 (by omega) (by omega) (by omega) (by omega) (fun q z g => m0 q z (by omega)) e0 h0 h1 d1 (fun J1 a1 a2 a3 => ?_)
          by_cases d2 : 48 ≤ tok tx n (skp tx n p + 1) ∧ tok tx n (skp tx n p + 1) ≤ 51
          · rw [pF, if_pos d2, pF] at hres
            have l2 := tok_lt (tx := tx) (n := n) (p := skp tx n p + 1) (by omega)
            refine stepD J1 (skp tx n p + 1) 2 (by omega) (by omega) (by omega) (by omega) (fun q z g => by rw [a3 q z (by omega), m0 q z (by omega)]) a1 (by omega) (by omega) d2 (fun J2 b1 b2 b3 => ?_)
            refine stepZ J2 3 (by omega) (by omega) (by omega) (fin _ (tok tx n p - 48) (tok tx n (skp tx n p + 1) - 48) 0 (skp tx n (skp tx n p + 1) + 1) (by omega) (by omega) (by omega) (fun q z g => by rw [pw_up_other (by omega), b3 q z (by omega), a3 q z (by omega), m0 q z (by omega)]) ?_ ?_ ?_ (pw_up_self _ _ _ _) ?_ (by omega) ?_)
            · rw [pw_up_other (by omega), b3 _ _ (by omega), a3 _ _ (by omega)]; exact s0
            · rw [pw_up_other (by omega), b3 _ _ (by omega)]; exact a2
            · rw [pw_up_other (by omega)]; exact b2
            · rw [pw_up_other (by omega)]; exact b1
            · rw [← hres]
              dsimp only
              rw [show 64 * ((1 : Nat) : Int) + ((0 * 4 + (tok tx n p - 48)) * 4 + (tok tx n (skp tx n p + 1) - 48)) * 4 = 64 * ((1 : Nat) : Int) + 16 * (tok tx n p - 48) + 4 * (tok tx n (skp tx n p + 1) - 48) + 0 by omega]
          · rw [pF, if_neg d2] at hres
            exact stepB J1 (skp tx n p + 1) 2 (by omega) (by omega) (by omega) (by omega) (fun q z g => by rw [a3 q z (by omega), m0 q z (by omega)]) a1 (by omega) (by omega) d2 hres.symm
        · rw [pF, if_neg d1] at hres
          exact stepB J0 p 1 (by omega) (by omega) (by omega) (by omega) (fun q z g => m0 q z (by omega)) e0 h0 h1 d1 hres.symm
      · subst q
        have er : pIns0 tx n σ 2 p = (match pF tx n 3 p 0 with
          | (none, f) => (none, f)
          | (some v, p1) => (some (σ.1, ppush σ.2.1 σ.2.2 (64 * ((2 : Nat) : Int) + v * 1), σ.2.2 + 1), p1)) := rfl
        rw [er] at hres
        have sk1 := skp_ge tx h1
        by_cases d1 : 48 ≤ tok tx n p ∧ tok tx n p ≤ 51
        · rw [pF, if_pos d1] at hres
          have l1 := tok_lt (tx := tx) (n := n) (p := p) (by omega)
          have sk2 := skp_ge tx (n := n) (p := skp tx n p + 1) (by omega)
          refine stepD J0 p 1 (by omega) (by omega) (by omega) (by omega) (fun q z g => m0 q z (by omega)) e0 h0 h1 d1 (fun J1 a1 a2 a3 => ?_)
          generalize hq1 : skp tx n p + 1 = x1 at *
          by_cases d2 : 48 ≤ tok tx n x1 ∧ tok tx n x1 ≤ 51
          · rw [pF, if_pos d2] at hres
            have l2 := tok_lt (tx := tx) (n := n) (p := x1) (by omega)
            have sk3 := skp_ge tx (n := n) (p := skp tx n x1 + 1) (by omega)
            refine stepD J1 x1 2 (by omega) (by omega) (by omega) (by omega) (fun q z g => by rw [a3 q z (by omega), m0 q z (by omega)]) a1 (by omega) (by omega) d2 (fun J2 b1 b2 b3 => ?_)
            generalize hq2 : skp tx n x1 + 1 = x2 at *
            by_cases d3 : 48 ≤ tok tx n x2 ∧ tok tx n x2 ≤ 51
            · rw [pF, if_pos d3, pF] at hres
              have l3 := tok_lt (tx := tx) (n := n) (p := x2) (by omega)
              refine stepD J2 x2 3 (by omega) (by omega) (by omega) (by omega) (fun q z g => by rw [b3 q z (by omega), a3 q z (by omega), m0 q z (by omega)]) b1 (by omega) (by omega) d3 (fun J3 c1 c2 c3 => ?_)
              refine fin J3 (tok tx n p - 48) (tok tx n x1 - 48) (tok tx n x2 - 48) (skp tx n x2 + 1) (by omega) (by omega) (by omega) (fun q z g => by rw [c3 q z (by omega), b3 q z (by omega), a3 q z (by omega), m0 q z (by omega)]) ?_ ?_ ?_ c2 c1 (by omega) ?_
              · rw [c3 _ _ (by omega), b3 _ _ (by omega), a3 _ _ (by omega)]; exact s0
              · rw [c3 _ _ (by omega), b3 _ _ (by omega)]; exact a2
              · rw [c3 _ _ (by omega)]; exact b2
              · rw [← hres]
                dsimp only
                rw [show 64 * ((2 : Nat) : Int) + (((0 * 4 + (tok tx n p - 48)) * 4 + (tok tx n x1 - 48)) * 4 + (tok tx n x2 - 48)) * 1 = 64 * ((2 : Nat) : Int) + 16 * (tok tx n p - 48) + 4 * (tok tx n x1 - 48) + (tok tx n x2 - 48) by omega]
            · rw [pF, if_neg d3] at hres
              exact stepB J2 x2 3 (by omega) (by omega) (by omega) (by omega) (fun q z g => by rw [b3 q z (by omega), a3 q z (by omega), m0 q z (by omega)]) b1 (by omega) (by omega) d3 hres.symm
          · rw [pF, if_neg d2] at hres
            exact stepB J1 x1 2 (by omega) (by omega) (by omega) (by omega) (fun q z g => by rw [a3 q z (by omega), m0 q z (by omega)]) a1 (by omega) (by omega) d2 hres.symm
        · rw [pF, if_neg d1] at hres
          exact stepB J0 p 1 (by omega) (by omega) (by omega) (by omega) (fun q z g => m0 q z (by omega)) e0 h0 h1 d1 hres.symm
    refine PW.aload_n (pc := 0) dX11_readsInstruction_0 rfl ?_
    refine PW.geti (pc := 1) dX11_readsInstruction_1 fl_X11_148 (by decide) M.g112 ?_
    rw [P1]
    refine PW.bipush (pc := 4) dX11_readsInstruction_4 (by decide) ?_
    refine PW.icmp_ne (pc := 6) (tgt := 11) dX11_readsInstruction_6 (by decide) (by first | omega | exact rg_of _) (by first | omega | exact rg_of _) (fun c_6 => ?_) (fun c_6 => ?_)
    · refine PW.iconst (pc := 11) dX11_readsInstruction_11 ?_
      refine PW.aload_n (pc := 12) dX11_readsInstruction_12 rfl ?_
      refine PW.geti (pc := 13) dX11_readsInstruction_13 fl_X11_148 (by decide) M.g112 ?_
      rw [P1]
      refine PW.imul (pc := 16) dX11_readsInstruction_16 ?_
      refine PW.istore_n (pc := 17) dX11_readsInstruction_17 (by decide) ?_
      refine PW.aload_n (pc := 18) dX11_readsInstruction_18 rfl ?_
      refine PW.getr (pc := 19) dX11_readsInstruction_19 fl_X11_65 M.g112 M.r30 ?_
      refine PW.iload_n (pc := 22) dX11_readsInstruction_22 rfl ?_
      refine PW.iload_n (pc := 23) dX11_readsInstruction_23 rfl ?_
      refine PW.iast (pc := 24) dX11_readsInstruction_24 M.g131 (by omega) (by omega) (by omega) ?_
      refine PW.iconst (pc := 25) dX11_readsInstruction_25 ?_
      refine PW.istore_n (pc := 26) dX11_readsInstruction_26 (by decide) ?_
      exact start
    · omega
set_option maxRecDepth 100000 in
set_option maxHeartbeats 1000000 in
theorem c_X11_item (d : Nat) {I : PIm} {tb : Int → Tm} {tx : Int → Int} {n p : Int} {σ : PS} (M : MAt Γ R) (ht : I 127 = tx) (hn : I 112 20 = n) (h22 : I 112 22 = nxt tx n p) (h23 : I 112 23 = skp tx n p) (h24 : I 112 24 = tok tx n p) (hx : TxOK tx n) (h0 : 0 ≤ p) (h1 : p ≤ n) (hE : tok tx n p ≠ -1) (PI : MPI I σ tb p) : PC sc mX11_item (d + 3) 0 0 [.inr (some 112)] Γ I R (MIp Γ R I (pItem0 tx n σ p)) := by
  have htk := tok_rg hx h0 h1
  have hsk := skp_ge tx h1
  have hlt := tok_lt (tx := tx) (n := n) (p := p) hE
  rw [show nxt tx n p = skp tx n p + 1 from if_pos hlt] at h22
  have PI2 : MPI I σ tb (skp tx n p + 1) := PI.cg (fun _ _ _ => rfl) (by omega)
  have CI : ∀ k : Nat, k ≤ 2 → PC sc mX11_readsInstruction (d + 2) 0 0 [.inr (some 112), .inl (k : Int)] Γ I R (MIp Γ R I (if 6 ≤ σ.2.2 then (none, skp tx n p) else pIns0 tx n σ k (skp tx n p + 1))) := fun k hk => c_X11_readsInstruction (sc := sc) (Γ := Γ) (R := R) (d + 1) M ht hn h22 h23 hx (by omega) (by omega) hk PI2
  have z01 : ∀ {res : Option PS × Int} {v : Option PV} {Γ' : List PTy} {I' : PIm} {R' : PRm}, MIp Γ R I res v Γ' I' R' → ∃ z, v = some (.inl z) ∧ (z = 0 ∨ z = 1) := by
    rintro res v Γ' I' R' ⟨-, -, -, k5⟩
    rcases hr : res.1 with _ | σ'
    · rw [hr] at k5
      exact ⟨0, k5.1, Or.inl rfl⟩
    · rw [hr] at k5
      exact ⟨1, k5.1, Or.inr rfl⟩
  refine PC.ofPW (by decide) (Nat.le_of_ble_eq_true rfl) ?_
  unfold pItem0
  by_cases c1 : tok tx n p = 61
  · have CF := c_X11_readsFact (sc := sc) (Γ := Γ) (R := R) d (e := 1) M ht hn h22 h23 hx (by omega) (by omega) (Or.inr rfl) PI2
    rw [if_pos (Or.inl c1), if_pos c1]
    refine PW.aload_n (pc := 0) dX11_item_0 rfl ?_
    refine PW.geti (pc := 1) dX11_item_1 fl_X11_135 (by decide) M.g112 ?_
    rw [h24]
    refine PW.lookup (pc := 4) (tgt := 56) dX11_item_4 (by decide) (by omega) (by rw [c1]) (by decide) ?_
    refine PW.aload_n (pc := 56) dX11_item_56 rfl ?_
    refine PW.iconst (pc := 57) dX11_item_57 ?_
    refine PW.invV0 (pc := 58) dX11_item_58 mv_X11_151 (CF) M.g112 rfl rfl (Nat.le_of_ble_eq_true rfl) ?_
    (intro v Γ' I' R' hpo; obtain ⟨z, rfl, hz⟩ := z01 hpo)
    exact PW.zreturn (pc := 61) dX11_item_61 rfl hz (hpo)
  · by_cases c2 : tok tx n p = 33
    · have CF := c_X11_readsFact (sc := sc) (Γ := Γ) (R := R) d (e := 0) M ht hn h22 h23 hx (by omega) (by omega) (Or.inl rfl) PI2
      rw [if_pos (Or.inr c2), if_neg c1]
      refine PW.aload_n (pc := 0) dX11_item_0 rfl ?_
      refine PW.geti (pc := 1) dX11_item_1 fl_X11_135 (by decide) M.g112 ?_
      rw [h24]
      refine PW.lookup (pc := 4) (tgt := 62) dX11_item_4 (by decide) (by omega) (by rw [c2]) (by decide) ?_
      refine PW.aload_n (pc := 62) dX11_item_62 rfl ?_
      refine PW.iconst (pc := 63) dX11_item_63 ?_
      refine PW.invV0 (pc := 64) dX11_item_64 mv_X11_151 (CF) M.g112 rfl rfl (Nat.le_of_ble_eq_true rfl) ?_
      (intro v Γ' I' R' hpo; obtain ⟨z, rfl, hz⟩ := z01 hpo)
      exact PW.zreturn (pc := 67) dX11_item_67 rfl hz (hpo)
    · rw [if_neg (by omega)]
      by_cases c3 : tok tx n p = 110
      · have CI0 := CI 0 (by omega)
        rw [if_pos c3]
        refine PW.aload_n (pc := 0) dX11_item_0 rfl ?_
        refine PW.geti (pc := 1) dX11_item_1 fl_X11_135 (by decide) M.g112 ?_
        rw [h24]
        refine PW.lookup (pc := 4) (tgt := 68) dX11_item_4 (by decide) (by omega) (by rw [c3]) (by decide) ?_
        refine PW.aload_n (pc := 68) dX11_item_68 rfl ?_
        refine PW.iconst (pc := 69) dX11_item_69 ?_
        refine PW.invV0 (pc := 70) dX11_item_70 mv_X11_155 (CI0) M.g112 rfl rfl (Nat.le_of_ble_eq_true rfl) ?_
        (intro v Γ' I' R' hpo; obtain ⟨z, rfl, hz⟩ := z01 hpo)
        exact PW.zreturn (pc := 73) dX11_item_73 rfl hz (hpo)
      · by_cases c4 : tok tx n p = 117
        · have CI0 := CI 1 (by omega)
          rw [if_neg c3, if_pos c4]
          refine PW.aload_n (pc := 0) dX11_item_0 rfl ?_
          refine PW.geti (pc := 1) dX11_item_1 fl_X11_135 (by decide) M.g112 ?_
          rw [h24]
          refine PW.lookup (pc := 4) (tgt := 74) dX11_item_4 (by decide) (by omega) (by rw [c4]) (by decide) ?_
          refine PW.aload_n (pc := 74) dX11_item_74 rfl ?_
          refine PW.iconst (pc := 75) dX11_item_75 ?_
          refine PW.invV0 (pc := 76) dX11_item_76 mv_X11_155 (CI0) M.g112 rfl rfl (Nat.le_of_ble_eq_true rfl) ?_
          (intro v Γ' I' R' hpo; obtain ⟨z, rfl, hz⟩ := z01 hpo)
          exact PW.zreturn (pc := 79) dX11_item_79 rfl hz (hpo)
        · by_cases c5 : tok tx n p = 111
          · have CI0 := CI 2 (by omega)
            rw [if_neg c3, if_neg c4, if_pos c5]
            refine PW.aload_n (pc := 0) dX11_item_0 rfl ?_
            refine PW.geti (pc := 1) dX11_item_1 fl_X11_135 (by decide) M.g112 ?_
            rw [h24]
            refine PW.lookup (pc := 4) (tgt := 80) dX11_item_4 (by decide) (by omega) (by rw [c5]) (by decide) ?_
            refine PW.aload_n (pc := 80) dX11_item_80 rfl ?_
            refine PW.iconst (pc := 81) dX11_item_81 ?_
            refine PW.invV0 (pc := 82) dX11_item_82 mv_X11_155 (CI0) M.g112 rfl rfl (Nat.le_of_ble_eq_true rfl) ?_
            (intro v Γ' I' R' hpo; obtain ⟨z, rfl, hz⟩ := z01 hpo)
            exact PW.zreturn (pc := 85) dX11_item_85 rfl hz (hpo)
          · rw [if_neg c3, if_neg c4, if_neg c5]
            refine PW.aload_n (pc := 0) dX11_item_0 rfl ?_
            refine PW.geti (pc := 1) dX11_item_1 fl_X11_135 (by decide) M.g112 ?_
            rw [h24]
            refine PW.lookup (pc := 4) (tgt := 86) dX11_item_4 (by decide) (by omega) (off := 82) (by simp [Op.lookupswitch.offset, Ne.symm c1, Ne.symm c2, Ne.symm c3, Ne.symm c4, Ne.symm c5]) (by decide) ?_
            refine PW.iconst (pc := 86) dX11_item_86 ?_
            exact PW.zreturn (pc := 87) dX11_item_87 rfl (by first | exact Or.inl rfl | exact Or.inr rfl | omega) (⟨rfl, rfl, fun _ _ _ => rfl, rfl, h23⟩)
end MINS
