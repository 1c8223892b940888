section MBROKEN
variable {sc : PSc} {Γ : List PTy} {R : PRm}
/-- the row that is tried: its pipe is the one now -/
def BInv (s : CS) (I1 I : PIm) : Prop := UInv s I1 I ∧ ∀ j : Int, 25 ≤ j → j < 29 → I 116 j = I1 116 j
set_option maxRecDepth 100000 in
set_option maxHeartbeats 1000000 in
theorem c_X11_breaks (d : Nat) {I0 I1 : PIm} {s : CS} {m : Nat} {num lag fw w : Int} (M : MAt Γ R) (hB : BInv s I1 I0) (hm : m ≤ 4) (n0 : 0 ≤ num) (n1 : num < 4096) (hl : I1 116 26 = lag) (hl3 : 0 ≤ lag ∧ lag ≤ 3) (hf : I1 116 27 = fw) (hw0 : I1 116 28 = w) (hw : w = 0 ∨ w = 1) : PC sc mX11_breaks (d + 8) 0 0 [.inr (some 112), .inl (m : Int), .inl num] Γ I0 R (fun v Γ' I' R' => v = some (.inl (cb (BF lag fw w m num))) ∧ Γ' = Γ ∧ R' = R ∧ BInv s I1 I') := by
  have loop : ∀ (N k : Nat) (I : PIm) (o : Option PV), m - k = N → k ≤ m → (∀ q, q ≠ 116 → I q = I0 q) → (∀ j : Int, 25 ≤ j → j < 29 → I 116 j = I1 116 j) → I 116 0 = m → (∀ j : Int, 0 ≤ j → j < k → I 116 (1 + 4 * j + 0) = kd (bP m num j) ∧ I 116 (1 + 4 * j + 1) = dd (bP m num j) ∧ I 116 (1 + 4 * j + 2) = ss (bP m num j) ∧ I 116 (1 + 4 * j + 3) = tt (bP m num j)) → PW sc mX11_breaks (d + 8) 0 0 (fun v Γ' I' R' => v = some (.inl (cb (BF lag fw w m num))) ∧ Γ' = Γ ∧ R' = R ∧ BInv s I1 I') 9 [some (.inr (some 112)), some (.inl (m : Int)), some (.inl num), some (.inl (k : Int)), o] [] Γ I R := by
    intro N
    induction N using Nat.strongRecOn with
    | _ N ih =>
      intro k I o hN hk fr h25 e0 rows
      by_cases hlt : k < m
      · have dr := dg_rg (s := m) (num := num) (k := k) hm n0 (by omega) (by omega) (by omega)
        obtain ⟨-, -, b1, b2, b3, b4, -⟩ := bc_of dr.1 dr.2
        have ed : dg m num k = pw_and (pw_shr num (3 * ((m : Int) - 1 - k))) 7 := rfl
        refine PW.iload_n (pc := 9) dX11_breaks_9 rfl ?_
        refine PW.iload_n (pc := 10) dX11_breaks_10 rfl ?_
        refine PW.icmp_ge (pc := 11) (tgt := 95) dX11_breaks_11 (by decide) (by first | omega | exact rg_of _) (by first | omega | exact rg_of _) (fun c_11 => ?_) (fun c_11 => ?_)
        · omega
        · refine PW.iload_n (pc := 14) dX11_breaks_14 rfl ?_
          refine PW.iconst (pc := 15) dX11_breaks_15 ?_
          refine PW.iload_n (pc := 16) dX11_breaks_16 rfl ?_
          refine PW.iconst (pc := 17) dX11_breaks_17 ?_
          refine PW.isub (pc := 18) dX11_breaks_18 ?_
          refine PW.iload_n (pc := 19) dX11_breaks_19 rfl ?_
          refine PW.isub (pc := 20) dX11_breaks_20 ?_
          refine PW.imul (pc := 21) dX11_breaks_21 ?_
          refine PW.ishr (pc := 22) dX11_breaks_22 ?_
          refine PW.bipush (pc := 23) dX11_breaks_23 (by decide) ?_
          refine PW.iand (pc := 25) dX11_breaks_25 ?_
          rw [← ed]
          refine PW.istore (pc := 26) dX11_breaks_26 (by decide) ?_
          refine PW.aload_n (pc := 28) dX11_breaks_28 rfl ?_
          refine PW.getr (pc := 29) dX11_breaks_29 fl_X11_20 M.g112 M.r5 ?_
          refine PW.iconst (pc := 32) dX11_breaks_32 ?_
          refine PW.iconst (pc := 33) dX11_breaks_33 ?_
          refine PW.iload_n (pc := 34) dX11_breaks_34 rfl ?_
          refine PW.imul (pc := 35) dX11_breaks_35 ?_
          refine PW.iadd (pc := 36) dX11_breaks_36 ?_
          refine PW.iconst (pc := 37) dX11_breaks_37 ?_
          refine PW.iast (pc := 38) dX11_breaks_38 M.g116 (by omega) (by omega) (by omega) ?_
          refine PW.aload_n (pc := 39) dX11_breaks_39 rfl ?_
          refine PW.getr (pc := 40) dX11_breaks_40 fl_X11_20 M.g112 M.r5 ?_
          refine PW.iconst (pc := 43) dX11_breaks_43 ?_
          refine PW.iconst (pc := 44) dX11_breaks_44 ?_
          refine PW.iload_n (pc := 45) dX11_breaks_45 rfl ?_
          refine PW.imul (pc := 46) dX11_breaks_46 ?_
          refine PW.iadd (pc := 47) dX11_breaks_47 ?_
          refine PW.iconst (pc := 48) dX11_breaks_48 ?_
          refine PW.iadd (pc := 49) dX11_breaks_49 ?_
          refine PW.iload (pc := 50) dX11_breaks_50 rfl ?_
          refine PW.iconst (pc := 52) dX11_breaks_52 ?_
          refine PW.ishr (pc := 53) dX11_breaks_53 ?_
          refine PW.iast (pc := 54) dX11_breaks_54 M.g116 (by omega) (by omega) (by omega) ?_
          refine PW.aload_n (pc := 55) dX11_breaks_55 rfl ?_
          refine PW.getr (pc := 56) dX11_breaks_56 fl_X11_20 M.g112 M.r5 ?_
          refine PW.iconst (pc := 59) dX11_breaks_59 ?_
          refine PW.iconst (pc := 60) dX11_breaks_60 ?_
          refine PW.iload_n (pc := 61) dX11_breaks_61 rfl ?_
          refine PW.imul (pc := 62) dX11_breaks_62 ?_
          refine PW.iadd (pc := 63) dX11_breaks_63 ?_
          refine PW.iconst (pc := 64) dX11_breaks_64 ?_
          refine PW.iadd (pc := 65) dX11_breaks_65 ?_
          refine PW.iload (pc := 66) dX11_breaks_66 rfl ?_
          refine PW.iconst (pc := 68) dX11_breaks_68 ?_
          refine PW.ishr (pc := 69) dX11_breaks_69 ?_
          refine PW.iconst (pc := 70) dX11_breaks_70 ?_
          refine PW.iand (pc := 71) dX11_breaks_71 ?_
          refine PW.iast (pc := 72) dX11_breaks_72 M.g116 (by omega) (by omega) (by omega) ?_
          refine PW.aload_n (pc := 73) dX11_breaks_73 rfl ?_
          refine PW.getr (pc := 74) dX11_breaks_74 fl_X11_20 M.g112 M.r5 ?_
          refine PW.iconst (pc := 77) dX11_breaks_77 ?_
          refine PW.iconst (pc := 78) dX11_breaks_78 ?_
          refine PW.iload_n (pc := 79) dX11_breaks_79 rfl ?_
          refine PW.imul (pc := 80) dX11_breaks_80 ?_
          refine PW.iadd (pc := 81) dX11_breaks_81 ?_
          refine PW.iconst (pc := 82) dX11_breaks_82 ?_
          refine PW.iadd (pc := 83) dX11_breaks_83 ?_
          refine PW.iload (pc := 84) dX11_breaks_84 rfl ?_
          refine PW.iconst (pc := 86) dX11_breaks_86 ?_
          refine PW.iand (pc := 87) dX11_breaks_87 ?_
          refine PW.iast (pc := 88) dX11_breaks_88 M.g116 (by omega) (by omega) (by omega) ?_
          refine PW.iinc (pc := 89) dX11_breaks_89 rfl (by decide) ?_
          refine PW.goto (pc := 92) (tgt := 9) dX11_breaks_92 (by decide) ?_
          refine ih (m - (k + 1)) (by omega) (k + 1) _ _ rfl (by omega) (fun q g => by rw [pw_up_ne q g, pw_up_ne q g, pw_up_ne q g, pw_up_ne q g, fr q g]) (fun j j0 j1 => by rw [pw_up_other (by omega), pw_up_other (by omega), pw_up_other (by omega), pw_up_other (by omega), h25 j j0 j1]) (by rw [pw_up_other (by omega), pw_up_other (by omega), pw_up_other (by omega), pw_up_other (by omega)]; exact e0) (fun j j0 j1 => ?_)
          by_cases e : j = (k : Int)
          · rw [e]
            unfold bP
            rw [b1, b2, b3, b4]
            refine ⟨?_, ?_, ?_, ?_⟩
            · rw [pw_up_other (by omega), pw_up_other (by omega), pw_up_other (by omega), show 1 + 4 * (k : Int) + 0 = 1 + 4 * k by omega, pw_up_self]
            · rw [pw_up_other (by omega), pw_up_other (by omega), pw_up_self]
            · rw [pw_up_other (by omega), pw_up_self]
            · rw [pw_up_self]
          · have := rows j j0 (by omega)
            refine ⟨?_, ?_, ?_, ?_⟩
            · rw [pw_up_other (by omega), pw_up_other (by omega), pw_up_other (by omega), pw_up_other (by omega)]; exact this.1
            · rw [pw_up_other (by omega), pw_up_other (by omega), pw_up_other (by omega), pw_up_other (by omega)]; exact this.2.1
            · rw [pw_up_other (by omega), pw_up_other (by omega), pw_up_other (by omega), pw_up_other (by omega)]; exact this.2.2.1
            · rw [pw_up_other (by omega), pw_up_other (by omega), pw_up_other (by omega), pw_up_other (by omega)]; exact this.2.2.2
      · obtain rfl : k = m := by omega
        have U := hB.1.s116 fr
        obtain ⟨⟨tb2, F2⟩, u2, u3, u4⟩ := id U
        have PM : ProgM I (bP k num) k := ⟨e0, by omega, fun j j0 j1 => ⟨(bc_of (dg_rg hm n0 (by omega) j0 j1).1 (dg_rg hm n0 (by omega) j0 j1).2).2.1, rows j j0 j1⟩⟩
        have RN := c_X11_runsNow (sc := sc) (Γ := Γ) (R := R) (I0 := I) d (lag := lag) (fw := fw) (w := w) M PM (by rw [h25 26 (by omega) (by omega)]; exact hl) hl3 (by rw [h25 27 (by omega) (by omega)]; exact hf) (by rw [h25 28 (by omega) (by omega)]; exact hw0) hw F2.2.1 F2.2.2.1
        have f104 := F2.2.2.1
        have dr := dif_rg (bP k num) lag fw w k
        refine PW.iload_n (pc := 9) dX11_breaks_9 rfl ?_
        refine PW.iload_n (pc := 10) dX11_breaks_10 rfl ?_
        refine PW.icmp_ge (pc := 11) (tgt := 95) dX11_breaks_11 (by decide) (by first | omega | exact rg_of _) (by first | omega | exact rg_of _) (fun c_11 => ?_) (fun c_11 => ?_)
        · refine PW.aload_n (pc := 95) dX11_breaks_95 rfl ?_
          refine PW.invV0 (pc := 96) dX11_breaks_96 mv_X11_229 (RN) M.g112 rfl rfl (Nat.le_of_ble_eq_true rfl) ?_
          (rintro v Γ' I3 R' ⟨rfl, rfl, rfl, tb', rn⟩)
          have rz := rn.2.1
          have UN := c_X11_unlike (sc := sc) (Γ := Γ') (R := R') (d + 7) M rn.1 (by omega) rn.2.2.2.2.1
          have B3 : BInv s I1 I3 := ⟨U.run F2 rn, fun j j0 j1 => by rw [rn.lo 116 (by omega) (by omega)]; exact h25 j j0 j1⟩
          refine PW.aload_n (pc := 99) dX11_breaks_99 rfl ?_
          refine PW.invV0x (pc := 100) dX11_breaks_100 mv_X11_245 (UN) M.g112 rfl rfl (Nat.le_of_ble_eq_true rfl) ?_
          refine PW.if_eq (pc := 103) (tgt := 110) dX11_breaks_103 (by decide) (by first | omega | exact rg_of _) (fun c_103 => ?_) (fun c_103 => ?_)
          · refine PW.iconst (pc := 110) dX11_breaks_110 ?_
            exact PW.zreturn (pc := 111) dX11_breaks_111 rfl (by first | exact Or.inl rfl | exact Or.inr rfl | omega) (by first | exact ⟨by rw [cb_pos (show BF lag fw w k num from c_103)], rfl, rfl, B3⟩ | exact ⟨by rw [cb_neg (show ¬ BF lag fw w k num from fun o => o c_103)], rfl, rfl, B3⟩)
          · refine PW.iconst (pc := 106) dX11_breaks_106 ?_
            refine PW.goto (pc := 107) (tgt := 111) dX11_breaks_107 (by decide) ?_
            exact PW.zreturn (pc := 111) dX11_breaks_111 rfl (by first | exact Or.inl rfl | exact Or.inr rfl | omega) (by first | exact ⟨by rw [cb_pos (show BF lag fw w k num from c_103)], rfl, rfl, B3⟩ | exact ⟨by rw [cb_neg (show ¬ BF lag fw w k num from fun o => o c_103)], rfl, rfl, B3⟩)
        · omega
  refine PC.ofPW (by decide) (Nat.le_of_ble_eq_true rfl) ?_
  refine PW.aload_n (pc := 0) dX11_breaks_0 rfl ?_
  refine PW.getr (pc := 1) dX11_breaks_1 fl_X11_20 M.g112 M.r5 ?_
  refine PW.iconst (pc := 4) dX11_breaks_4 ?_
  refine PW.iload_n (pc := 5) dX11_breaks_5 rfl ?_
  refine PW.iast (pc := 6) dX11_breaks_6 M.g116 (by omega) (by omega) (by omega) ?_
  refine PW.iconst (pc := 7) dX11_breaks_7 ?_
  refine PW.istore_n (pc := 8) dX11_breaks_8 (by decide) ?_
  exact loop m 0 _ _ rfl (by omega) (fun q g => pw_up_ne q g) (fun j j0 j1 => by rw [pw_up_other (by omega)]; exact hB.2 j j0 j1) (pw_up_self _ _ _ _) (fun j j0 j1 => by omega)
set_option maxRecDepth 100000 in
set_option maxHeartbeats 1000000 in
theorem c_X11_breaker (d : Nat) {I0 I1 : PIm} {s : CS} {lag fw w : Int} (M : MAt Γ R) (hB : BInv s I1 I0) (hl : I1 116 26 = lag) (hl3 : 0 ≤ lag ∧ lag ≤ 3) (hf : I1 116 27 = fw) (hw0 : I1 116 28 = w) (hw : w = 0 ∨ w = 1) : PC sc mX11_breaker (d + 9) 0 0 [.inr (some 112)] Γ I0 R (fun v Γ' I' R' => Γ' = Γ ∧ R' = R ∧ BInv s I1 I' ∧ ((∃ (m : Nat) (num : Int), v = some (.inl (4096 * (m : Int) + num)) ∧ IsFirst lag fw w m num) ∨ (v = some (.inl (-9)) ∧ NoBrk lag fw w))) := by
  have outer : ∀ (N m : Nat) (I : PIm) (o : Option PV), 5 - m = N → 1 ≤ m → m ≤ 5 → BInv s I1 I → (∀ s' : Nat, 1 ≤ s' → s' < m → ∀ x, 0 ≤ x → x < 8 ^ s' → ¬ BF lag fw w s' x) → PW sc mX11_breaker (d + 9) 0 0 (fun v Γ' I' R' => Γ' = Γ ∧ R' = R ∧ BInv s I1 I' ∧ ((∃ (m : Nat) (num : Int), v = some (.inl (4096 * (m : Int) + num)) ∧ IsFirst lag fw w m num) ∨ (v = some (.inl (-9)) ∧ NoBrk lag fw w))) 2 [some (.inr (some 112)), some (.inl (m : Int)), o] [] Γ I R := by
    intro N
    induction N using Nat.strongRecOn with
    | _ N ih =>
      intro m I o hN m1 m5 B hno
      by_cases hm : m < 5
      · have sh := shl8 ⟨m, hm⟩
        dsimp only at sh
        have p8 := pow8_le (s := m) (by omega)
        have inner : ∀ (N2 x : Nat) (I2 : PIm), ((8 : Int) ^ m - x).toNat = N2 → (x : Int) ≤ 8 ^ m → BInv s I1 I2 → (∀ y, 0 ≤ y → y < (x : Int) → ¬ BF lag fw w m y) → PW sc mX11_breaker (d + 9) 0 0 (fun v Γ' I' R' => Γ' = Γ ∧ R' = R ∧ BInv s I1 I' ∧ ((∃ (m : Nat) (num : Int), v = some (.inl (4096 * (m : Int) + num)) ∧ IsFirst lag fw w m num) ∨ (v = some (.inl (-9)) ∧ NoBrk lag fw w))) 9 [some (.inr (some 112)), some (.inl (m : Int)), some (.inl (x : Int))] [] Γ I2 R := by
          intro N2
          induction N2 using Nat.strongRecOn with
          | _ N2 ih2 =>
            intro x I2 hN2 hx B2 hn2
            by_cases hxl : (x : Int) < 8 ^ m
            · refine PW.iload_n (pc := 9) dX11_breaker_9 rfl ?_
              refine PW.iconst (pc := 10) dX11_breaker_10 ?_
              refine PW.iconst (pc := 11) dX11_breaker_11 ?_
              refine PW.iload_n (pc := 12) dX11_breaker_12 rfl ?_
              refine PW.imul (pc := 13) dX11_breaker_13 ?_
              refine PW.ishl (pc := 14) dX11_breaker_14 ?_
              rw [sh]
              refine PW.icmp_ge (pc := 15) (tgt := 40) dX11_breaker_15 (by decide) (by first | omega | exact rg_of _) (by first | omega | exact rg_of _) (fun c_15 => ?_) (fun c_15 => ?_)
              · omega
              · refine PW.aload_n (pc := 18) dX11_breaker_18 rfl ?_
                refine PW.iload_n (pc := 19) dX11_breaker_19 rfl ?_
                refine PW.iload_n (pc := 20) dX11_breaker_20 rfl ?_
                refine PW.invV0 (pc := 21) dX11_breaker_21 mv_X11_248 (c_X11_breaks _ M B2 (by omega) (by omega) (by omega) hl hl3 hf hw0 hw) M.g112 rfl rfl (Nat.le_of_ble_eq_true rfl) ?_
                (rintro v Γ' I3 R' ⟨rfl, rfl, rfl, B3⟩)
                refine PW.if_eq (pc := 24) (tgt := 34) dX11_breaker_24 (by decide) (rg_cb _) (fun c_24 => ?_) (fun c_24 => ?_)
                · refine PW.iinc (pc := 34) dX11_breaker_34 rfl (by decide) ?_
                  refine PW.goto (pc := 37) (tgt := 9) dX11_breaker_37 (by decide) ?_
                  exact ih2 _ (by omega) (x + 1) I3 rfl (by omega) B3 (fun y y0 y1 => by
                    by_cases e : y = (x : Int)
                    · rw [e]; exact cb0 c_24
                    · exact hn2 y y0 (by omega))
                · refine PW.iload_n (pc := 27) dX11_breaker_27 rfl ?_
                  refine PW.bipush (pc := 28) dX11_breaker_28 (by decide) ?_
                  refine PW.ishl (pc := 30) dX11_breaker_30 ?_
                  refine PW.iload_n (pc := 31) dX11_breaker_31 rfl ?_
                  refine PW.ior (pc := 32) dX11_breaker_32 ?_
                  rw [its_eq (by omega) (by omega) (by omega)]
                  exact PW.ireturn (pc := 33) dX11_breaker_33 rfl (⟨rfl, rfl, B3, Or.inl ⟨m, x, rfl, ⟨m1, by omega⟩, ⟨by omega, hxl⟩, cb1 c_24, hn2, hno⟩⟩)
            · refine PW.iload_n (pc := 9) dX11_breaker_9 rfl ?_
              refine PW.iconst (pc := 10) dX11_breaker_10 ?_
              refine PW.iconst (pc := 11) dX11_breaker_11 ?_
              refine PW.iload_n (pc := 12) dX11_breaker_12 rfl ?_
              refine PW.imul (pc := 13) dX11_breaker_13 ?_
              refine PW.ishl (pc := 14) dX11_breaker_14 ?_
              rw [sh]
              refine PW.icmp_ge (pc := 15) (tgt := 40) dX11_breaker_15 (by decide) (by first | omega | exact rg_of _) (by first | omega | exact rg_of _) (fun c_15 => ?_) (fun c_15 => ?_)
              · refine PW.iinc (pc := 40) dX11_breaker_40 rfl (by decide) ?_
                refine PW.goto (pc := 43) (tgt := 2) dX11_breaker_43 (by decide) ?_
                exact ih (5 - (m + 1)) (by omega) (m + 1) I2 _ rfl (by omega) (by omega) B2 (fun s' a b y y0 y1 => by
                  by_cases e : s' = m
                  · rw [e] at y1 ⊢; exact hn2 y y0 (by omega)
                  · exact hno s' a (by omega) y y0 y1)
              · omega
        refine PW.iload_n (pc := 2) dX11_breaker_2 rfl ?_
        refine PW.iconst (pc := 3) dX11_breaker_3 ?_
        refine PW.icmp_ge (pc := 4) (tgt := 46) dX11_breaker_4 (by decide) (by first | omega | exact rg_of _) (by first | omega | exact rg_of _) (fun c_4 => ?_) (fun c_4 => ?_)
        · omega
        · refine PW.iconst (pc := 7) dX11_breaker_7 ?_
          refine PW.istore_n (pc := 8) dX11_breaker_8 (by decide) ?_
          exact inner _ 0 I rfl (by omega) B (fun y y0 y1 => by omega)
      · obtain rfl : m = 5 := by omega
        refine PW.iload_n (pc := 2) dX11_breaker_2 rfl ?_
        refine PW.iconst (pc := 3) dX11_breaker_3 ?_
        refine PW.icmp_ge (pc := 4) (tgt := 46) dX11_breaker_4 (by decide) (by first | omega | exact rg_of _) (by first | omega | exact rg_of _) (fun c_4 => ?_) (fun c_4 => ?_)
        · refine PW.bipush (pc := 46) dX11_breaker_46 (by decide) ?_
          exact PW.ireturn (pc := 48) dX11_breaker_48 rfl (⟨rfl, rfl, B, Or.inr ⟨rfl, fun s' a b y y0 y1 => hno s' a (by omega) y y0 y1⟩⟩)
        · omega
  refine PC.ofPW (by decide) (Nat.le_of_ble_eq_true rfl) ?_
  refine PW.iconst (pc := 0) dX11_breaker_0 ?_
  refine PW.istore_n (pc := 1) dX11_breaker_1 (by decide) ?_
  exact outer 4 1 I0 _ rfl (by omega) (by omega) hB (fun s' a b => by omega)
set_option maxRecDepth 100000 in
set_option maxHeartbeats 1000000 in
theorem q_broken (d : Nat) {I : PIm} {s : CS} {k : Int} (M : MAt Γ R) (h : MVal s I) (hk : Rg k) : PC sc mX11_broken (d + 10) 0 0 [.inr (some 112), .inl k] Γ I R (MPo Γ I R (sp_broken s k) s) := by
  have h1 := h.thr
  have z1 : ∀ q, q < 112 → pw_up I 112 0 0 q = I q := fun q g => pw_up_ne q (by omega)
  generalize hI1 : pw_up I 112 0 0 = I1 at h1 z1
  obtain ⟨vT, ⟨tb, vF⟩, ⟨vN, vNo⟩, vH, vI, vS⟩ := id h1
  obtain ⟨n1, n2, n25, n26, n27, n28⟩ := id vN
  obtain ⟨vNok, vNoF⟩ := id vNo
  have PM := vN.prog vNok
  have o1 : vn (cNow s) ≤ 6 := vNok.1
  have o3 : 0 ≤ vl (cNow s) ∧ vl (cNow s) ≤ 3 := vNok.2.2.1
  have o4 : 0 ≤ vf (cNow s) ∧ vf (cNow s) ≤ 7 := vNok.2.2.2.1
  have o5 : 0 ≤ vw (cNow s) ∧ vw (cNow s) ≤ 1 := vNok.2.2.2.2.1
  have o6 : 0 ≤ vi (cNow s) ∧ vi (cNow s) < 64 := vNok.2.2.2.2.2
  refine PC.ofPW (by decide) (Nat.le_of_ble_eq_true rfl) ?_
  by_cases q : k < -1
  · unfold sp_broken
    rw [if_pos q]
    refine PW.aload_n (pc := 0) dX11_broken_0 rfl ?_
    refine PW.iconst (pc := 1) dX11_broken_1 ?_
    refine PW.puti (pc := 2) dX11_broken_2 fl_X11_104 M.g112 ?_
    rw [hI1]
    refine PW.iload_n (pc := 5) dX11_broken_5 rfl ?_
    refine PW.iconst (pc := 6) dX11_broken_6 ?_
    refine PW.icmp_ge (pc := 7) (tgt := 12) dX11_broken_7 (by decide) (by first | omega | exact rg_of _) (by first | omega | exact rg_of _) (fun c_7 => ?_) (fun c_7 => ?_)
    · omega
    · refine PW.iconst (pc := 10) dX11_broken_10 ?_
      exact PW.ireturn (pc := 11) dX11_broken_11 rfl (MPo.of z1 h1)
  · have U0 : UInv s I1 (cpo I1 116 0 141 0 29) := by
      refine ⟨⟨tb, vF.cg rfl (by rw [cpo_ne (by omega)]) (by rw [cpo_ne (by omega)]) (fun q g1 g2 => cpo_ne (by omega)) (by rw [cpo_ne (by omega)]; exact vF.2.1.cg (fun q g1 g2 k _ _ => by rw [cpo_ne (by omega)])) (fun _ _ _ => rfl)⟩, fun k hk => by rw [cpo_ne (by omega)], fun q g => cpo_ne (by omega), fun j j0 j1 => ?_⟩
      have := cpo_at (I := I1) (src := 116) (oa := 0) (dst := 141) (ob := 0) (m := 29) j0 j1
      rw [show (0 : Int) + j = j by omega] at this
      exact this
    have B0 : BInv s I1 (cpo I1 116 0 141 0 29) := ⟨U0, fun j j0 j1 => by rw [cpo_ne (by omega)]⟩
    have yes : ∀ (I2 : PIm) (m : Nat) (num : Int), UInv s I1 I2 → IsFirst (vl (cNow s)) (vf (cNow s)) (vw (cNow s)) m num → PW sc mX11_broken (d + 10) 0 0 (MPo Γ I R (sp_broken s k) s) 69 [some (.inr (some 112)), some (.inl k), some (.inl (4096 * (m : Int) + num)), some (.inl (29 : Int))] [] Γ (cpo I2 141 0 116 0 29) R := by
      intro I2 m num U hfst
      have V3 := UInv.done h1 U
      have lo3 : ∀ q, q < 112 → cpo I2 141 0 116 0 29 q = I q := fun q g => by rw [cpo_ne (by omega), U.2.2.1 q (by omega), z1 q g]
      have m1 := hfst.1
      have nn := hfst.2.1.1
      have n4 : num < 4096 := by have := hfst.2.1.2; have := (pow8_le (s := m) m1.2).1; omega
      have IB : IsBrk (vl (cNow s)) (vf (cNow s)) (vw (cNow s)) k (if (m : Int) ≤ k then -9 else if k = -1 then (m : Int) else dg m num k) := Or.inl ⟨m, num, hfst, rfl⟩
      rw [sp_broken_eq q IB]
      have hi := its_hi (m := m) m1.2 nn n4
      by_cases z : (m : Int) ≤ k
      · rw [if_pos z]
        refine PW.iload_n (pc := 69) dX11_broken_69 rfl ?_
        refine PW.bipush (pc := 70) dX11_broken_70 (by decide) ?_
        refine PW.icmp_ne (pc := 72) (tgt := 79) dX11_broken_72 (by decide) (by first | omega | exact rg_of _) (by first | omega | exact rg_of _) (fun c_72 => ?_) (fun c_72 => ?_)
        · refine PW.iload_n (pc := 79) dX11_broken_79 rfl ?_
          refine PW.bipush (pc := 80) dX11_broken_80 (by decide) ?_
          refine PW.ishr (pc := 82) dX11_broken_82 ?_
          rw [hi]
          refine PW.istore_n (pc := 83) dX11_broken_83 (by decide) ?_
          refine PW.iload_n (pc := 84) dX11_broken_84 rfl ?_
          refine PW.bipush (pc := 85) dX11_broken_85 (by decide) ?_
          refine PW.icmp_eq (pc := 87) (tgt := 95) dX11_broken_87 (by decide) (by first | omega | exact rg_of _) (by first | omega | exact rg_of _) (fun c_87 => ?_) (fun c_87 => ?_)
          · omega
          · refine PW.iload_n (pc := 90) dX11_broken_90 rfl ?_
            refine PW.iload_n (pc := 91) dX11_broken_91 rfl ?_
            refine PW.icmp_lt (pc := 92) (tgt := 98) dX11_broken_92 (by decide) (by first | omega | exact rg_of _) (by first | omega | exact rg_of _) (fun c_92 => ?_) (fun c_92 => ?_)
            · omega
            · refine PW.bipush (pc := 95) dX11_broken_95 (by decide) ?_
              exact PW.ireturn (pc := 97) dX11_broken_97 rfl (MPo.of lo3 V3)
        · omega
      · rw [if_neg z]
        by_cases z1 : k = -1
        · rw [if_pos z1]
          refine PW.iload_n (pc := 69) dX11_broken_69 rfl ?_
          refine PW.bipush (pc := 70) dX11_broken_70 (by decide) ?_
          refine PW.icmp_ne (pc := 72) (tgt := 79) dX11_broken_72 (by decide) (by first | omega | exact rg_of _) (by first | omega | exact rg_of _) (fun c_72 => ?_) (fun c_72 => ?_)
          · refine PW.iload_n (pc := 79) dX11_broken_79 rfl ?_
            refine PW.bipush (pc := 80) dX11_broken_80 (by decide) ?_
            refine PW.ishr (pc := 82) dX11_broken_82 ?_
            rw [hi]
            refine PW.istore_n (pc := 83) dX11_broken_83 (by decide) ?_
            refine PW.iload_n (pc := 84) dX11_broken_84 rfl ?_
            refine PW.bipush (pc := 85) dX11_broken_85 (by decide) ?_
            refine PW.icmp_eq (pc := 87) (tgt := 95) dX11_broken_87 (by decide) (by first | omega | exact rg_of _) (by first | omega | exact rg_of _) (fun c_87 => ?_) (fun c_87 => ?_)
            · omega
            · refine PW.iload_n (pc := 90) dX11_broken_90 rfl ?_
              refine PW.iload_n (pc := 91) dX11_broken_91 rfl ?_
              refine PW.icmp_lt (pc := 92) (tgt := 98) dX11_broken_92 (by decide) (by first | omega | exact rg_of _) (by first | omega | exact rg_of _) (fun c_92 => ?_) (fun c_92 => ?_)
              · refine PW.iload_n (pc := 98) dX11_broken_98 rfl ?_
                refine PW.if_ge (pc := 99) (tgt := 106) dX11_broken_99 (by decide) (by first | omega | exact rg_of _) (fun c_99 => ?_) (fun c_99 => ?_)
                · omega
                · refine PW.iload_n (pc := 102) dX11_broken_102 rfl ?_
                  refine PW.goto (pc := 103) (tgt := 118) dX11_broken_103 (by decide) ?_
                  exact PW.ireturn (pc := 118) dX11_broken_118 rfl (MPo.of lo3 V3)
              · omega
          · omega
        · rw [if_neg z1]
          refine PW.iload_n (pc := 69) dX11_broken_69 rfl ?_
          refine PW.bipush (pc := 70) dX11_broken_70 (by decide) ?_
          refine PW.icmp_ne (pc := 72) (tgt := 79) dX11_broken_72 (by decide) (by first | omega | exact rg_of _) (by first | omega | exact rg_of _) (fun c_72 => ?_) (fun c_72 => ?_)
          · refine PW.iload_n (pc := 79) dX11_broken_79 rfl ?_
            refine PW.bipush (pc := 80) dX11_broken_80 (by decide) ?_
            refine PW.ishr (pc := 82) dX11_broken_82 ?_
            rw [hi]
            refine PW.istore_n (pc := 83) dX11_broken_83 (by decide) ?_
            refine PW.iload_n (pc := 84) dX11_broken_84 rfl ?_
            refine PW.bipush (pc := 85) dX11_broken_85 (by decide) ?_
            refine PW.icmp_eq (pc := 87) (tgt := 95) dX11_broken_87 (by decide) (by first | omega | exact rg_of _) (by first | omega | exact rg_of _) (fun c_87 => ?_) (fun c_87 => ?_)
            · omega
            · refine PW.iload_n (pc := 90) dX11_broken_90 rfl ?_
              refine PW.iload_n (pc := 91) dX11_broken_91 rfl ?_
              refine PW.icmp_lt (pc := 92) (tgt := 98) dX11_broken_92 (by decide) (by first | omega | exact rg_of _) (by first | omega | exact rg_of _) (fun c_92 => ?_) (fun c_92 => ?_)
              · refine PW.iload_n (pc := 98) dX11_broken_98 rfl ?_
                refine PW.if_ge (pc := 99) (tgt := 106) dX11_broken_99 (by decide) (by first | omega | exact rg_of _) (fun c_99 => ?_) (fun c_99 => ?_)
                · refine PW.iload_n (pc := 106) dX11_broken_106 rfl ?_
                  refine PW.iconst (pc := 107) dX11_broken_107 ?_
                  refine PW.iload_n (pc := 108) dX11_broken_108 rfl ?_
                  refine PW.iconst (pc := 109) dX11_broken_109 ?_
                  refine PW.isub (pc := 110) dX11_broken_110 ?_
                  refine PW.iload_n (pc := 111) dX11_broken_111 rfl ?_
                  refine PW.isub (pc := 112) dX11_broken_112 ?_
                  refine PW.imul (pc := 113) dX11_broken_113 ?_
                  refine PW.ishr (pc := 114) dX11_broken_114 ?_
                  refine PW.bipush (pc := 115) dX11_broken_115 (by decide) ?_
                  refine PW.iand (pc := 117) dX11_broken_117 ?_
                  rw [its_dg m1.2 nn n4 (by omega) (by omega)]
                  exact PW.ireturn (pc := 118) dX11_broken_118 rfl (MPo.of lo3 V3)
                · omega
              · omega
          · omega
    have no : ∀ (I2 : PIm), UInv s I1 I2 → NoBrk (vl (cNow s)) (vf (cNow s)) (vw (cNow s)) → PW sc mX11_broken (d + 10) 0 0 (MPo Γ I R (sp_broken s k) s) 69 [some (.inr (some 112)), some (.inl k), some (.inl (-9)), some (.inl (29 : Int))] [] Γ (cpo I2 141 0 116 0 29) R := by
      intro I2 U hno
      have V3 := UInv.done h1 U
      have lo3 : ∀ q, q < 112 → cpo I2 141 0 116 0 29 q = I q := fun q g => by rw [cpo_ne (by omega), U.2.2.1 q (by omega), z1 q g]
      rw [sp_broken_eq q (Or.inr ⟨hno, rfl⟩)]
      refine PW.iload_n (pc := 69) dX11_broken_69 rfl ?_
      refine PW.bipush (pc := 70) dX11_broken_70 (by decide) ?_
      refine PW.icmp_ne (pc := 72) (tgt := 79) dX11_broken_72 (by decide) (by first | omega | exact rg_of _) (by first | omega | exact rg_of _) (fun c_72 => ?_) (fun c_72 => ?_)
      · omega
      · refine PW.iconst (pc := 75) dX11_broken_75 ?_
        refine PW.goto (pc := 76) (tgt := 83) dX11_broken_76 (by decide) ?_
        refine PW.istore_n (pc := 83) dX11_broken_83 (by decide) ?_
        refine PW.iload_n (pc := 84) dX11_broken_84 rfl ?_
        refine PW.bipush (pc := 85) dX11_broken_85 (by decide) ?_
        refine PW.icmp_eq (pc := 87) (tgt := 95) dX11_broken_87 (by decide) (by first | omega | exact rg_of _) (by first | omega | exact rg_of _) (fun c_87 => ?_) (fun c_87 => ?_)
        · refine PW.bipush (pc := 95) dX11_broken_95 (by decide) ?_
          exact PW.ireturn (pc := 97) dX11_broken_97 rfl (MPo.of lo3 V3)
        · omega
    refine PW.aload_n (pc := 0) dX11_broken_0 rfl ?_
    refine PW.iconst (pc := 1) dX11_broken_1 ?_
    refine PW.puti (pc := 2) dX11_broken_2 fl_X11_104 M.g112 ?_
    rw [hI1]
    refine PW.iload_n (pc := 5) dX11_broken_5 rfl ?_
    refine PW.iconst (pc := 6) dX11_broken_6 ?_
    refine PW.icmp_ge (pc := 7) (tgt := 12) dX11_broken_7 (by decide) (by first | omega | exact rg_of _) (by first | omega | exact rg_of _) (fun c_7 => ?_) (fun c_7 => ?_)
    · refine PW.iconst (pc := 12) dX11_broken_12 ?_
      refine PW.istore_n (pc := 13) dX11_broken_13 (by decide) ?_
      refine lp_brokenA _ M ?_
      refine PW.aload_n (pc := 38) dX11_broken_38 rfl ?_
      refine PW.invV0 (pc := 39) dX11_broken_39 mv_X11_251 (c_X11_breaker (lag := vl (cNow s)) (fw := vf (cNow s)) (w := vw (cNow s)) _ M B0 n26 o3 n27 n28 (by omega)) M.g112 rfl rfl (Nat.le_of_ble_eq_true rfl) ?_
      rintro v Γ' I2 R' ⟨rfl, rfl, B2, ⟨m, num, rfl, hfst⟩ | ⟨rfl, hno⟩⟩
      · refine PW.istore_n (pc := 42) dX11_broken_42 (by decide) ?_
        refine PW.iconst (pc := 43) dX11_broken_43 ?_
        refine PW.istore_n (pc := 44) dX11_broken_44 (by decide) ?_
        exact lp_brokenB _ M (yes I2 m num B2.1 hfst)
      · refine PW.istore_n (pc := 42) dX11_broken_42 (by decide) ?_
        refine PW.iconst (pc := 43) dX11_broken_43 ?_
        refine PW.istore_n (pc := 44) dX11_broken_44 (by decide) ?_
        exact lp_brokenB _ M (no I2 B2.1 hno)
    · omega
end MBROKEN
