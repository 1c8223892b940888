section MPUBB
variable {sc : PSc} {Γ : List PTy} {R : PRm}
set_option maxRecDepth 100000 in
set_option maxHeartbeats 1000000 in
theorem MRun.lo {I I' : PIm} {tb tb' : Int → Tm} {P : Int → Int} {lag fw w : Int} {n : Nat} (r : MRun I I' tb tb' P lag fw w n) : ∀ q, (q < 122 ∨ 141 ≤ q) → q ≠ 112 → I' q = I q := fun q g1 g2 => by funext z; exact r.2.2.2.2.2.2 q z (by omega)
set_option maxRecDepth 100000 in
set_option maxHeartbeats 1000000 in
theorem q_equal (d : Nat) {I : PIm} {s : CS} {r q w : Int} (M : MAt Γ R) (h : MVal s I) (hr : Rg r) (hq : Rg q) (hw : Rg w) : PC sc mX11_equal (d + 8) 0 0 [.inr (some 112), .inl r, .inl q, .inl w] Γ I R (MPo Γ I R (sp_equal s r q w) s) := by
  have h1 := h.thr
  have z1 : ∀ q, q < 112 → pw_up I 112 0 0 q = I q := fun q g => pw_up_ne q (by omega)
  generalize hI1 : pw_up I 112 0 0 = I1 at h1 z1
  obtain ⟨vT, ⟨tb, vF⟩, ⟨vN, vNo⟩, vH, vI, vS⟩ := id h1
  obtain ⟨n1, n2, n25, n26, n27, n28⟩ := id vN
  obtain ⟨vNok, vNoF⟩ := id vNo
  have PM := vN.prog vNok
  have o1 : vn (cNow s) ≤ 6 := vNok.1
  have o3 : 0 ≤ vl (cNow s) ∧ vl (cNow s) ≤ 3 := vNok.2.2.1
  have o4 : 0 ≤ vf (cNow s) ∧ vf (cNow s) ≤ 7 := vNok.2.2.2.1
  have o5 : 0 ≤ vw (cNow s) ∧ vw (cNow s) ≤ 1 := vNok.2.2.2.2.1
  have o6 : 0 ≤ vi (cNow s) ∧ vi (cNow s) < 64 := vNok.2.2.2.2.2
  unfold sp_equal
  have C1 := c_X11_isRegister (sc := sc) (Γ := Γ) (R := R) (I := I1) (d + 6) hr
  have C2 := c_X11_isRegister (sc := sc) (Γ := Γ) (R := R) (I := I1) (d + 6) hq
  have C3 := c_X11_in (sc := sc) (Γ := Γ) (R := R) (I := I1) (d + 7) (v := w) (a := 0) (b := 2) hw (by omega) (by omega)
  refine PC.ofPW (by decide) (Nat.le_of_ble_eq_true rfl) ?_
  by_cases g : (0 ≤ r ∧ r ≤ 3) ∧ (0 ≤ q ∧ q ≤ 3) ∧ (0 ≤ w ∧ w ≤ 2)
  · rw [if_pos g]
    have RN := c_X11_runsNow (sc := sc) (Γ := Γ) (R := R) d M PM n26 o3 n27 n28 (by omega) vF.2.1 vF.2.2.1
    have go : ∀ (I' : PIm) (tb' : Int → Tm) (x y : Int), MRun I1 I' tb tb' (vP (cNow s)) (vl (cNow s)) (vf (cNow s)) (vw (cNow s)) (vn (cNow s)) → (0 ≤ x ∧ x < I' 112 13) → (0 ≤ y ∧ y < I' 112 13) → tb' x = regT (cNow s) r (w = 1) → tb' y = regT (cNow s) q (¬ w = 0) → PC sc mX11_equalOf (d + 7) 0 0 [.inr (some 112), .inl (vi (cNow s)), .inl x, .inl y] Γ I' R (MPo Γ I R (eqv (cUR s) (cF s) (vi (cNow s)) (regT (cNow s) r (w = 1)) (regT (cNow s) q (¬ w = 0))) s) := by
      intro I' tb' x y rn hx hy ex ey
      obtain ⟨F1, F2, F3⟩ := vF.run rn
      have V2 := h1.run vF rn
      have lo := rn.lo
      have h4 := rn.1.1
      obtain ⟨zn, hzn⟩ : ∃ z : Nat, I' 112 13 = z := ⟨(I' 112 13).toNat, by omega⟩
      have eU : UT tb' (I' 112 13) = cUR s := funext fun u => propext (F3 u)
      have T2 := rn.1
      have rz := rn.2.1
      have f104 := vF.2.2.1
      rw [hzn] at T2 F2 eU hx hy rz
      rw [← ex, ← ey, ← eU]
      refine (c_X11_equalOf _ M hzn (by omega) T2 F2 hx hy).mono ?_
      rintro v Γ' I3 R' ⟨rfl, rfl, rfl, y3⟩
      exact MPo.of (fun q g => by rw [y3 q (by omega), lo q (by omega) (by omega), z1 q g]) (V2.c137 y3)
    refine PW.aload_n (pc := 0) dX11_equal_0 rfl ?_
    refine PW.iconst (pc := 1) dX11_equal_1 ?_
    refine PW.puti (pc := 2) dX11_equal_2 fl_X11_104 M.g112 ?_
    rw [hI1]
    refine PW.iload_n (pc := 5) dX11_equal_5 rfl ?_
    refine PW.invS0x (pc := 6) dX11_equal_6 ms_X11_226 (C1) rfl rfl (Nat.le_of_ble_eq_true rfl) ?_
    refine PW.if_eq (pc := 9) (tgt := 28) dX11_equal_9 (by decide) (rg_bi _) (fun c_9 => ?_) (fun c_9 => ?_)
    · exact absurd g.1 (bi0 c_9)
    · refine PW.iload_n (pc := 12) dX11_equal_12 rfl ?_
      refine PW.invS0x (pc := 13) dX11_equal_13 ms_X11_226 (C2) rfl rfl (Nat.le_of_ble_eq_true rfl) ?_
      refine PW.if_eq (pc := 16) (tgt := 28) dX11_equal_16 (by decide) (rg_bi _) (fun c_16 => ?_) (fun c_16 => ?_)
      · exact absurd g.2.1 (bi0 c_16)
      · refine PW.iload_n (pc := 19) dX11_equal_19 rfl ?_
        refine PW.iconst (pc := 20) dX11_equal_20 ?_
        refine PW.iconst (pc := 21) dX11_equal_21 ?_
        refine PW.invS0x (pc := 22) dX11_equal_22 ms_X11_122 (C3) rfl rfl (Nat.le_of_ble_eq_true rfl) ?_
        refine PW.if_ne (pc := 25) (tgt := 30) dX11_equal_25 (by decide) (rg_bi _) (fun c_25 => ?_) (fun c_25 => ?_)
        · refine PW.aload_n (pc := 30) dX11_equal_30 rfl ?_
          refine PW.invV0 (pc := 31) dX11_equal_31 mv_X11_229 (RN) M.g112 rfl rfl (Nat.le_of_ble_eq_true rfl) ?_
          (rintro v Γ' I' R' ⟨rfl, rfl, rfl, tb', rn⟩)
          have A1 := rn.2.2.2.2.1 r (by omega) (by omega)
          have A2 := rn.2.2.2.2.1 q (by omega) (by omega)
          refine PW.aload_n (pc := 34) dX11_equal_34 rfl ?_
          refine PW.aload_n (pc := 35) dX11_equal_35 rfl ?_
          refine PW.getr (pc := 36) dX11_equal_36 fl_X11_20 M.g112 M.r5 ?_
          refine PW.bipush (pc := 39) dX11_equal_39 (by decide) ?_
          refine PW.iald (pc := 41) dX11_equal_41 M.g116 (by omega) (by omega) (by omega) ?_
          rw [rn.lo 116 (by omega) (by omega), n25]
          refine PW.aload_n (pc := 42) dX11_equal_42 rfl ?_
          refine PW.getr (pc := 43) dX11_equal_43 fl_X11_92 M.g112 M.r39 ?_
          refine PW.iload_n (pc := 46) dX11_equal_46 rfl ?_
          refine PW.iconst (pc := 47) dX11_equal_47 ?_
          refine PW.icmp_ne (pc := 48) (tgt := 57) dX11_equal_48 (by decide) (by first | omega | exact rg_of _) (by first | omega | exact rg_of _) (fun c_48 => ?_) (fun c_48 => ?_)
          · refine PW.iload_n (pc := 57) dX11_equal_57 rfl ?_
            refine PW.iald (pc := 58) dX11_equal_58 M.g140 (by omega) (by omega) (by omega) ?_
            refine PW.aload_n (pc := 59) dX11_equal_59 rfl ?_
            refine PW.getr (pc := 60) dX11_equal_60 fl_X11_92 M.g112 M.r39 ?_
            refine PW.iload_n (pc := 63) dX11_equal_63 rfl ?_
            refine PW.if_ne (pc := 64) (tgt := 71) dX11_equal_64 (by decide) (by first | omega | exact rg_of _) (fun c_64 => ?_) (fun c_64 => ?_)
            · refine PW.iload_n (pc := 71) dX11_equal_71 rfl ?_
              refine PW.iconst (pc := 72) dX11_equal_72 ?_
              refine PW.iadd (pc := 73) dX11_equal_73 ?_
              refine PW.iald (pc := 74) dX11_equal_74 M.g140 (by omega) (by omega) (by omega) ?_
              refine PW.invV0 (pc := 75) dX11_equal_75 mv_X11_223 (go I' tb' _ _ rn (by first | exact ⟨A1.2.1, A1.2.2.1⟩ | exact ⟨A1.1.1, A1.1.2.1⟩) (by first | exact ⟨A2.2.1, A2.2.2.1⟩ | exact ⟨A2.1.1, A2.1.2.1⟩) (by unfold regT; first | (rw [if_pos c_48]; exact A1.2.2.2) | (rw [if_neg c_48]; exact A1.1.2.2)) (by unfold regT; first | (rw [if_pos (show ¬ w = 0 from c_64)]; exact A2.2.2.2) | (rw [if_neg (show ¬ ¬ w = 0 from fun o => o c_64)]; exact A2.1.2.2))) M.g112 rfl rfl (Nat.le_of_ble_eq_true rfl) ?_
              (rintro v Γ' I2 R' ⟨rfl, hp⟩)
              exact PW.ireturn (pc := 78) dX11_equal_78 rfl (⟨rfl, hp⟩)
            · refine PW.iload_n (pc := 67) dX11_equal_67 rfl ?_
              refine PW.goto (pc := 68) (tgt := 74) dX11_equal_68 (by decide) ?_
              refine PW.iald (pc := 74) dX11_equal_74 M.g140 (by omega) (by omega) (by omega) ?_
              refine PW.invV0 (pc := 75) dX11_equal_75 mv_X11_223 (go I' tb' _ _ rn (by first | exact ⟨A1.2.1, A1.2.2.1⟩ | exact ⟨A1.1.1, A1.1.2.1⟩) (by first | exact ⟨A2.2.1, A2.2.2.1⟩ | exact ⟨A2.1.1, A2.1.2.1⟩) (by unfold regT; first | (rw [if_pos c_48]; exact A1.2.2.2) | (rw [if_neg c_48]; exact A1.1.2.2)) (by unfold regT; first | (rw [if_pos (show ¬ w = 0 from c_64)]; exact A2.2.2.2) | (rw [if_neg (show ¬ ¬ w = 0 from fun o => o c_64)]; exact A2.1.2.2))) M.g112 rfl rfl (Nat.le_of_ble_eq_true rfl) ?_
              (rintro v Γ' I2 R' ⟨rfl, hp⟩)
              exact PW.ireturn (pc := 78) dX11_equal_78 rfl (⟨rfl, hp⟩)
          · refine PW.iload_n (pc := 51) dX11_equal_51 rfl ?_
            refine PW.iconst (pc := 52) dX11_equal_52 ?_
            refine PW.iadd (pc := 53) dX11_equal_53 ?_
            refine PW.goto (pc := 54) (tgt := 58) dX11_equal_54 (by decide) ?_
            refine PW.iald (pc := 58) dX11_equal_58 M.g140 (by omega) (by omega) (by omega) ?_
            refine PW.aload_n (pc := 59) dX11_equal_59 rfl ?_
            refine PW.getr (pc := 60) dX11_equal_60 fl_X11_92 M.g112 M.r39 ?_
            refine PW.iload_n (pc := 63) dX11_equal_63 rfl ?_
            refine PW.if_ne (pc := 64) (tgt := 71) dX11_equal_64 (by decide) (by first | omega | exact rg_of _) (fun c_64 => ?_) (fun c_64 => ?_)
            · refine PW.iload_n (pc := 71) dX11_equal_71 rfl ?_
              refine PW.iconst (pc := 72) dX11_equal_72 ?_
              refine PW.iadd (pc := 73) dX11_equal_73 ?_
              refine PW.iald (pc := 74) dX11_equal_74 M.g140 (by omega) (by omega) (by omega) ?_
              refine PW.invV0 (pc := 75) dX11_equal_75 mv_X11_223 (go I' tb' _ _ rn (by first | exact ⟨A1.2.1, A1.2.2.1⟩ | exact ⟨A1.1.1, A1.1.2.1⟩) (by first | exact ⟨A2.2.1, A2.2.2.1⟩ | exact ⟨A2.1.1, A2.1.2.1⟩) (by unfold regT; first | (rw [if_pos c_48]; exact A1.2.2.2) | (rw [if_neg c_48]; exact A1.1.2.2)) (by unfold regT; first | (rw [if_pos (show ¬ w = 0 from c_64)]; exact A2.2.2.2) | (rw [if_neg (show ¬ ¬ w = 0 from fun o => o c_64)]; exact A2.1.2.2))) M.g112 rfl rfl (Nat.le_of_ble_eq_true rfl) ?_
              (rintro v Γ' I2 R' ⟨rfl, hp⟩)
              exact PW.ireturn (pc := 78) dX11_equal_78 rfl (⟨rfl, hp⟩)
            · refine PW.iload_n (pc := 67) dX11_equal_67 rfl ?_
              refine PW.goto (pc := 68) (tgt := 74) dX11_equal_68 (by decide) ?_
              refine PW.iald (pc := 74) dX11_equal_74 M.g140 (by omega) (by omega) (by omega) ?_
              refine PW.invV0 (pc := 75) dX11_equal_75 mv_X11_223 (go I' tb' _ _ rn (by first | exact ⟨A1.2.1, A1.2.2.1⟩ | exact ⟨A1.1.1, A1.1.2.1⟩) (by first | exact ⟨A2.2.1, A2.2.2.1⟩ | exact ⟨A2.1.1, A2.1.2.1⟩) (by unfold regT; first | (rw [if_pos c_48]; exact A1.2.2.2) | (rw [if_neg c_48]; exact A1.1.2.2)) (by unfold regT; first | (rw [if_pos (show ¬ w = 0 from c_64)]; exact A2.2.2.2) | (rw [if_neg (show ¬ ¬ w = 0 from fun o => o c_64)]; exact A2.1.2.2))) M.g112 rfl rfl (Nat.le_of_ble_eq_true rfl) ?_
              (rintro v Γ' I2 R' ⟨rfl, hp⟩)
              exact PW.ireturn (pc := 78) dX11_equal_78 rfl (⟨rfl, hp⟩)
        · exact absurd g.2.2 (bi0 c_25)
  · rw [if_neg g]
    refine PW.aload_n (pc := 0) dX11_equal_0 rfl ?_
    refine PW.iconst (pc := 1) dX11_equal_1 ?_
    refine PW.puti (pc := 2) dX11_equal_2 fl_X11_104 M.g112 ?_
    rw [hI1]
    refine PW.iload_n (pc := 5) dX11_equal_5 rfl ?_
    refine PW.invS0x (pc := 6) dX11_equal_6 ms_X11_226 (C1) rfl rfl (Nat.le_of_ble_eq_true rfl) ?_
    refine PW.if_eq (pc := 9) (tgt := 28) dX11_equal_9 (by decide) (rg_bi _) (fun c_9 => ?_) (fun c_9 => ?_)
    · refine PW.iconst (pc := 28) dX11_equal_28 ?_
      exact PW.ireturn (pc := 29) dX11_equal_29 rfl (MPo.of z1 h1)
    · refine PW.iload_n (pc := 12) dX11_equal_12 rfl ?_
      refine PW.invS0x (pc := 13) dX11_equal_13 ms_X11_226 (C2) rfl rfl (Nat.le_of_ble_eq_true rfl) ?_
      refine PW.if_eq (pc := 16) (tgt := 28) dX11_equal_16 (by decide) (rg_bi _) (fun c_16 => ?_) (fun c_16 => ?_)
      · refine PW.iconst (pc := 28) dX11_equal_28 ?_
        exact PW.ireturn (pc := 29) dX11_equal_29 rfl (MPo.of z1 h1)
      · refine PW.iload_n (pc := 19) dX11_equal_19 rfl ?_
        refine PW.iconst (pc := 20) dX11_equal_20 ?_
        refine PW.iconst (pc := 21) dX11_equal_21 ?_
        refine PW.invS0x (pc := 22) dX11_equal_22 ms_X11_122 (C3) rfl rfl (Nat.le_of_ble_eq_true rfl) ?_
        refine PW.if_ne (pc := 25) (tgt := 30) dX11_equal_25 (by decide) (rg_bi _) (fun c_25 => ?_) (fun c_25 => ?_)
        · exact absurd (And.intro (bi1 c_9) (And.intro (bi1 c_16) (bi1 c_25))) g
        · refine PW.iconst (pc := 28) dX11_equal_28 ?_
          exact PW.ireturn (pc := 29) dX11_equal_29 rfl (MPo.of z1 h1)
set_option maxRecDepth 100000 in
set_option maxHeartbeats 1000000 in
theorem q_step (d : Nat) {I : PIm} {s : CS} {k : Int} (M : MAt Γ R) (h : MVal s I) (hk : Rg k) : PC sc mX11_step (d + 8) 0 0 [.inr (some 112), .inl k] Γ I R (MPo Γ I R (sp_step s k) s) := by
  have h1 := h.thr
  have z1 : ∀ q, q < 112 → pw_up I 112 0 0 q = I q := fun q g => pw_up_ne q (by omega)
  generalize hI1 : pw_up I 112 0 0 = I1 at h1 z1
  obtain ⟨vT, ⟨tb, vF⟩, ⟨vN, vNo⟩, vH, vI, vS⟩ := id h1
  obtain ⟨n1, n2, n25, n26, n27, n28⟩ := id vN
  obtain ⟨vNok, vNoF⟩ := id vNo
  have PM := vN.prog vNok
  have o1 : vn (cNow s) ≤ 6 := vNok.1
  have o3 : 0 ≤ vl (cNow s) ∧ vl (cNow s) ≤ 3 := vNok.2.2.1
  have o4 : 0 ≤ vf (cNow s) ∧ vf (cNow s) ≤ 7 := vNok.2.2.2.1
  have o5 : 0 ≤ vw (cNow s) ∧ vw (cNow s) ≤ 1 := vNok.2.2.2.2.1
  have o6 : 0 ≤ vi (cNow s) ∧ vi (cNow s) < 64 := vNok.2.2.2.2.2
  unfold sp_step
  have IN1 := c_X11_in (sc := sc) (Γ := Γ) (R := R) (I := I1) (d + 7) (v := k) (a := 0) (b := (vn (cNow s) : Int) - 1) hk (by omega) (by omega)
  refine PC.ofPW (by decide) (Nat.le_of_ble_eq_true rfl) ?_
  by_cases g : 0 ≤ k ∧ k < (vn (cNow s) : Int)
  · rw [if_pos g]
    have RN := c_X11_runsNow (sc := sc) (Γ := Γ) (R := R) d M PM n26 o3 n27 n28 (by omega) vF.2.1 vF.2.2.1
    refine PW.aload_n (pc := 0) dX11_step_0 rfl ?_
    refine PW.iconst (pc := 1) dX11_step_1 ?_
    refine PW.puti (pc := 2) dX11_step_2 fl_X11_104 M.g112 ?_
    rw [hI1]
    refine PW.iload_n (pc := 5) dX11_step_5 rfl ?_
    refine PW.iconst (pc := 6) dX11_step_6 ?_
    refine PW.aload_n (pc := 7) dX11_step_7 rfl ?_
    refine PW.getr (pc := 8) dX11_step_8 fl_X11_20 M.g112 M.r5 ?_
    refine PW.iconst (pc := 11) dX11_step_11 ?_
    refine PW.iald (pc := 12) dX11_step_12 M.g116 (by omega) (by omega) (by omega) ?_
    rw [n1]
    refine PW.iconst (pc := 13) dX11_step_13 ?_
    refine PW.isub (pc := 14) dX11_step_14 ?_
    refine PW.invS0x (pc := 15) dX11_step_15 ms_X11_122 (IN1) rfl rfl (Nat.le_of_ble_eq_true rfl) ?_
    refine PW.if_ne (pc := 18) (tgt := 23) dX11_step_18 (by decide) (rg_bi _) (fun c_18 => ?_) (fun c_18 => ?_)
    · refine PW.aload_n (pc := 23) dX11_step_23 rfl ?_
      refine PW.invV0 (pc := 24) dX11_step_24 mv_X11_229 (RN) M.g112 rfl rfl (Nat.le_of_ble_eq_true rfl) ?_
      (rintro v Γ' I' R' ⟨rfl, rfl, rfl, tb', rn⟩)
      refine PW.aload_n (pc := 27) dX11_step_27 rfl ?_
      refine PW.getr (pc := 28) dX11_step_28 fl_X11_86 M.g112 M.r37 ?_
      refine PW.iload_n (pc := 31) dX11_step_31 rfl ?_
      refine PW.iald (pc := 32) dX11_step_32 M.g138 (by omega) (by omega) (by omega) ?_
      rw [rn.2.2.2.2.2.1 k g.1 g.2]
      exact PW.ireturn (pc := 33) dX11_step_33 rfl (MPo.of (fun q g => by rw [rn.lo q (by omega) (by omega), z1 q g]) (h1.run vF rn))
    · exact absurd c_18 (by rw [bi_pos (by omega)]; omega)
  · rw [if_neg g]
    refine PW.aload_n (pc := 0) dX11_step_0 rfl ?_
    refine PW.iconst (pc := 1) dX11_step_1 ?_
    refine PW.puti (pc := 2) dX11_step_2 fl_X11_104 M.g112 ?_
    rw [hI1]
    refine PW.iload_n (pc := 5) dX11_step_5 rfl ?_
    refine PW.iconst (pc := 6) dX11_step_6 ?_
    refine PW.aload_n (pc := 7) dX11_step_7 rfl ?_
    refine PW.getr (pc := 8) dX11_step_8 fl_X11_20 M.g112 M.r5 ?_
    refine PW.iconst (pc := 11) dX11_step_11 ?_
    refine PW.iald (pc := 12) dX11_step_12 M.g116 (by omega) (by omega) (by omega) ?_
    rw [n1]
    refine PW.iconst (pc := 13) dX11_step_13 ?_
    refine PW.isub (pc := 14) dX11_step_14 ?_
    refine PW.invS0x (pc := 15) dX11_step_15 ms_X11_122 (IN1) rfl rfl (Nat.le_of_ble_eq_true rfl) ?_
    refine PW.if_ne (pc := 18) (tgt := 23) dX11_step_18 (by decide) (rg_bi _) (fun c_18 => ?_) (fun c_18 => ?_)
    · exact absurd (bi1 c_18) (by omega)
    · refine PW.iconst (pc := 21) dX11_step_21 ?_
      exact PW.ireturn (pc := 22) dX11_step_22 rfl (MPo.of z1 h1)
set_option maxRecDepth 100000 in
set_option maxHeartbeats 1000000 in
theorem q_length (d : Nat) {I : PIm} {s : CS} (M : MAt Γ R) (h : MVal s I) : PC sc mX11_length (d + 8) 0 0 [.inr (some 112)] Γ I R (MPo Γ I R (sp_length s) s) := by
  have h1 := h.thr
  have z1 : ∀ q, q < 112 → pw_up I 112 0 0 q = I q := fun q g => pw_up_ne q (by omega)
  generalize hI1 : pw_up I 112 0 0 = I1 at h1 z1
  obtain ⟨vT, ⟨tb, vF⟩, ⟨vN, vNo⟩, vH, vI, vS⟩ := id h1
  obtain ⟨n1, n2, n25, n26, n27, n28⟩ := id vN
  obtain ⟨vNok, vNoF⟩ := id vNo
  have PM := vN.prog vNok
  have o1 : vn (cNow s) ≤ 6 := vNok.1
  have o3 : 0 ≤ vl (cNow s) ∧ vl (cNow s) ≤ 3 := vNok.2.2.1
  have o4 : 0 ≤ vf (cNow s) ∧ vf (cNow s) ≤ 7 := vNok.2.2.2.1
  have o5 : 0 ≤ vw (cNow s) ∧ vw (cNow s) ≤ 1 := vNok.2.2.2.2.1
  have o6 : 0 ≤ vi (cNow s) ∧ vi (cNow s) < 64 := vNok.2.2.2.2.2
  unfold sp_length
  refine PC.ofPW (by decide) (Nat.le_of_ble_eq_true rfl) ?_
  have RN := c_X11_runsNow (sc := sc) (Γ := Γ) (R := R) d M PM n26 o3 n27 n28 (by omega) vF.2.1 vF.2.2.1
  by_cases g : vn (cNow s) = 0
  · rw [if_pos g]
    refine PW.aload_n (pc := 0) dX11_length_0 rfl ?_
    refine PW.iconst (pc := 1) dX11_length_1 ?_
    refine PW.puti (pc := 2) dX11_length_2 fl_X11_104 M.g112 ?_
    rw [hI1]
    refine PW.aload_n (pc := 5) dX11_length_5 rfl ?_
    refine PW.invV0 (pc := 6) dX11_length_6 mv_X11_229 (RN) M.g112 rfl rfl (Nat.le_of_ble_eq_true rfl) ?_
    (rintro v Γ' I' R' ⟨rfl, rfl, rfl, tb', rn⟩)
    refine PW.aload_n (pc := 9) dX11_length_9 rfl ?_
    refine PW.getr (pc := 10) dX11_length_10 fl_X11_20 M.g112 M.r5 ?_
    refine PW.iconst (pc := 13) dX11_length_13 ?_
    refine PW.iald (pc := 14) dX11_length_14 M.g116 (by omega) (by omega) (by omega) ?_
    rw [rn.lo 116 (by omega) (by omega), n1]
    refine PW.if_ne (pc := 15) (tgt := 22) dX11_length_15 (by decide) (by first | omega | exact rg_of _) (fun c_15 => ?_) (fun c_15 => ?_)
    · omega
    · refine PW.iconst (pc := 18) dX11_length_18 ?_
      refine PW.goto (pc := 19) (tgt := 45) dX11_length_19 (by decide) ?_
      exact PW.ireturn (pc := 45) dX11_length_45 rfl (MPo.of (fun q g => by rw [rn.lo q (by omega) (by omega), z1 q g]) (h1.run vF rn))
  · rw [if_neg g]
    refine PW.aload_n (pc := 0) dX11_length_0 rfl ?_
    refine PW.iconst (pc := 1) dX11_length_1 ?_
    refine PW.puti (pc := 2) dX11_length_2 fl_X11_104 M.g112 ?_
    rw [hI1]
    refine PW.aload_n (pc := 5) dX11_length_5 rfl ?_
    refine PW.invV0 (pc := 6) dX11_length_6 mv_X11_229 (RN) M.g112 rfl rfl (Nat.le_of_ble_eq_true rfl) ?_
    (rintro v Γ' I' R' ⟨rfl, rfl, rfl, tb', rn⟩)
    refine PW.aload_n (pc := 9) dX11_length_9 rfl ?_
    refine PW.getr (pc := 10) dX11_length_10 fl_X11_20 M.g112 M.r5 ?_
    refine PW.iconst (pc := 13) dX11_length_13 ?_
    refine PW.iald (pc := 14) dX11_length_14 M.g116 (by omega) (by omega) (by omega) ?_
    rw [rn.lo 116 (by omega) (by omega), n1]
    refine PW.if_ne (pc := 15) (tgt := 22) dX11_length_15 (by decide) (by first | omega | exact rg_of _) (fun c_15 => ?_) (fun c_15 => ?_)
    · refine PW.aload_n (pc := 22) dX11_length_22 rfl ?_
      refine PW.getr (pc := 23) dX11_length_23 fl_X11_86 M.g112 M.r37 ?_
      refine PW.aload_n (pc := 26) dX11_length_26 rfl ?_
      refine PW.getr (pc := 27) dX11_length_27 fl_X11_20 M.g112 M.r5 ?_
      refine PW.iconst (pc := 30) dX11_length_30 ?_
      refine PW.iald (pc := 31) dX11_length_31 M.g116 (by omega) (by omega) (by omega) ?_
      rw [rn.lo 116 (by omega) (by omega), n1]
      refine PW.iconst (pc := 32) dX11_length_32 ?_
      refine PW.isub (pc := 33) dX11_length_33 ?_
      refine PW.iald (pc := 34) dX11_length_34 M.g138 (by omega) (by omega) (by omega) ?_
      rw [rn.2.2.2.2.2.1 _ (by omega) (by omega)]
      refine PW.iconst (pc := 35) dX11_length_35 ?_
      refine PW.iadd (pc := 36) dX11_length_36 ?_
      refine PW.aload_n (pc := 37) dX11_length_37 rfl ?_
      refine PW.getr (pc := 38) dX11_length_38 fl_X11_20 M.g112 M.r5 ?_
      refine PW.bipush (pc := 41) dX11_length_41 (by decide) ?_
      refine PW.iald (pc := 43) dX11_length_43 M.g116 (by omega) (by omega) (by omega) ?_
      rw [rn.lo 116 (by omega) (by omega), n26]
      refine PW.iadd (pc := 44) dX11_length_44 ?_
      exact PW.ireturn (pc := 45) dX11_length_45 rfl (MPo.of (fun q g => by rw [rn.lo q (by omega) (by omega), z1 q g]) (h1.run vF rn))
    · omega
set_option maxRecDepth 100000 in
set_option maxHeartbeats 1000000 in
/-- WRONG behind a run -/
theorem c_wrongRun (d : Nat) {I1 I' : PIm} {s : CS} {tb tb' : Int → Tm} {lag fw w fs : Int} (M : MAt Γ R) (h1 : MVal s I1) (vF : MFa s I1 tb) (hn : vn (cNow s) ≤ 6) (rn : MRun I1 I' tb tb' (vP (cNow s)) lag fw w (vn (cNow s))) : PC sc mX11_wrongBy (d + 2) 0 0 [.inr (some 112), .inl fs] Γ I' R (fun v Γ' I2 R' => v = some (.inl (wrg (cF s) fs (vP (cNow s)) lag fw w (vn (cNow s)))) ∧ Γ' = Γ ∧ R' = R ∧ (∀ q, q ≠ 137 → I2 q = I' q)) := by
  obtain ⟨F1, F2, F3⟩ := vF.run rn
  have := rn.2.1
  have := vF.2.2.1
  exact c_X11_wrongBy d M rn.1 (by omega) F2 F3 rn.2.2.2.2.1
set_option maxRecDepth 100000 in
set_option maxHeartbeats 1000000 in
theorem q_wrong (d : Nat) {I : PIm} {s : CS} (M : MAt Γ R) (h : MVal s I) : PC sc mX11_wrong (d + 8) 0 0 [.inr (some 112)] Γ I R (MPo Γ I R (sp_wrong s) s) := by
  have h1 := h.thr
  have z1 : ∀ q, q < 112 → pw_up I 112 0 0 q = I q := fun q g => pw_up_ne q (by omega)
  generalize hI1 : pw_up I 112 0 0 = I1 at h1 z1
  obtain ⟨vT, ⟨tb, vF⟩, ⟨vN, vNo⟩, vH, vI, vS⟩ := id h1
  obtain ⟨n1, n2, n25, n26, n27, n28⟩ := id vN
  obtain ⟨vNok, vNoF⟩ := id vNo
  have PM := vN.prog vNok
  have o1 : vn (cNow s) ≤ 6 := vNok.1
  have o3 : 0 ≤ vl (cNow s) ∧ vl (cNow s) ≤ 3 := vNok.2.2.1
  have o4 : 0 ≤ vf (cNow s) ∧ vf (cNow s) ≤ 7 := vNok.2.2.2.1
  have o5 : 0 ≤ vw (cNow s) ∧ vw (cNow s) ≤ 1 := vNok.2.2.2.2.1
  have o6 : 0 ≤ vi (cNow s) ∧ vi (cNow s) < 64 := vNok.2.2.2.2.2
  unfold sp_wrong
  refine PC.ofPW (by decide) (Nat.le_of_ble_eq_true rfl) ?_
  have RN := c_X11_runsNow (sc := sc) (Γ := Γ) (R := R) d M PM n26 o3 n27 n28 (by omega) vF.2.1 vF.2.2.1
  refine PW.aload_n (pc := 0) dX11_wrong_0 rfl ?_
  refine PW.iconst (pc := 1) dX11_wrong_1 ?_
  refine PW.puti (pc := 2) dX11_wrong_2 fl_X11_104 M.g112 ?_
  rw [hI1]
  refine PW.aload_n (pc := 5) dX11_wrong_5 rfl ?_
  refine PW.invV0 (pc := 6) dX11_wrong_6 mv_X11_229 (RN) M.g112 rfl rfl (Nat.le_of_ble_eq_true rfl) ?_
  (rintro v Γ' I' R' ⟨rfl, rfl, rfl, tb', rn⟩)
  refine PW.aload_n (pc := 9) dX11_wrong_9 rfl ?_
  refine PW.aload_n (pc := 10) dX11_wrong_10 rfl ?_
  refine PW.getr (pc := 11) dX11_wrong_11 fl_X11_20 M.g112 M.r5 ?_
  refine PW.bipush (pc := 14) dX11_wrong_14 (by decide) ?_
  refine PW.iald (pc := 16) dX11_wrong_16 M.g116 (by omega) (by omega) (by omega) ?_
  rw [rn.lo 116 (by omega) (by omega), n25]
  refine PW.invV0 (pc := 17) dX11_wrong_17 mv_X11_239 (c_wrongRun _ M h1 vF o1 rn) M.g112 rfl rfl (Nat.le_of_ble_eq_true rfl) ?_
  (rintro v Γ' I2 R' ⟨rfl, rfl, rfl, y⟩)
  exact PW.ireturn (pc := 20) dX11_wrong_20 rfl (MPo.of (fun q g => by rw [y q (by omega), rn.lo q (by omega) (by omega), z1 q g]) ((h1.run vF rn).c137 y))
set_option maxRecDepth 100000 in
set_option maxHeartbeats 1000000 in
theorem q_count (d : Nat) {I : PIm} {s : CS} {w : Int} (M : MAt Γ R) (h : MVal s I) (hw : Rg w) : PC sc mX11_count d 0 0 [.inr (some 112), .inl w] Γ I R (MPo Γ I R (sp_count s w) s) := by
  have h1 := h.thr
  have z1 : ∀ q, q < 112 → pw_up I 112 0 0 q = I q := fun q g => pw_up_ne q (by omega)
  generalize hI1 : pw_up I 112 0 0 = I1 at h1 z1
  obtain ⟨vT, ⟨tb, vF⟩, ⟨vN, vNo⟩, vH, vI, vS⟩ := id h1
  obtain ⟨n1, n2, n25, n26, n27, n28⟩ := id vN
  obtain ⟨vNok, vNoF⟩ := id vNo
  have PM := vN.prog vNok
  have o1 : vn (cNow s) ≤ 6 := vNok.1
  have o3 : 0 ≤ vl (cNow s) ∧ vl (cNow s) ≤ 3 := vNok.2.2.1
  have o4 : 0 ≤ vf (cNow s) ∧ vf (cNow s) ≤ 7 := vNok.2.2.2.1
  have o5 : 0 ≤ vw (cNow s) ∧ vw (cNow s) ≤ 1 := vNok.2.2.2.2.1
  have o6 : 0 ≤ vi (cNow s) ∧ vi (cNow s) < 64 := vNok.2.2.2.2.2
  refine PC.ofPW (by decide) (Nat.le_of_ble_eq_true rfl) ?_
  have e0 : I1 112 1 = ((cF s).1 : Int) := vF.1.1
  have e6 := vS.1
  have e7 := vT.1
  have e8 := vH.1
  by_cases q : w < 0 ∨ 8 < w
  · unfold sp_count
    rw [if_neg (by omega), if_neg (by omega), if_neg (by omega), if_neg (by omega), if_neg (by omega), if_neg (by omega), if_neg (by omega), if_neg (by omega), if_neg (by omega)]
    refine PW.aload_n (pc := 0) dX11_count_0 rfl ?_
    refine PW.iconst (pc := 1) dX11_count_1 ?_
    refine PW.puti (pc := 2) dX11_count_2 fl_X11_104 M.g112 ?_
    rw [hI1]
    refine PW.iload_n (pc := 5) dX11_count_5 rfl ?_
    refine PW.tableOut (pc := 6) (tgt := 103) dX11_count_6 hw q (by decide) ?_
    refine PW.iconst (pc := 103) dX11_count_103 ?_
    exact PW.ireturn (pc := 104) dX11_count_104 rfl (MPo.of z1 h1)
  · rcases (show w = 0 ∨ w = 1 ∨ w = 2 ∨ w = 3 ∨ w = 4 ∨ w = 5 ∨ w = 6 ∨ w = 7 ∨ w = 8 by omega) with rfl | rfl | rfl | rfl | rfl | rfl | rfl | rfl | rfl
    · refine PW.aload_n (pc := 0) dX11_count_0 rfl ?_
      refine PW.iconst (pc := 1) dX11_count_1 ?_
      refine PW.puti (pc := 2) dX11_count_2 fl_X11_104 M.g112 ?_
      rw [hI1]
      refine PW.iload_n (pc := 5) dX11_count_5 rfl ?_
      refine PW.tableIn (pc := 6) (tgt := 56) dX11_count_6 hw (by decide) (by decide) rfl (by decide) ?_
      refine PW.aload_n (pc := 56) dX11_count_56 rfl ?_
      refine PW.geti (pc := 57) dX11_count_57 fl_X11_162 (by decide) M.g112 ?_
      rw [e0]
      exact PW.ireturn (pc := 60) dX11_count_60 rfl (MPo.of z1 h1)
    · refine PW.aload_n (pc := 0) dX11_count_0 rfl ?_
      refine PW.iconst (pc := 1) dX11_count_1 ?_
      refine PW.puti (pc := 2) dX11_count_2 fl_X11_104 M.g112 ?_
      rw [hI1]
      refine PW.iload_n (pc := 5) dX11_count_5 rfl ?_
      refine PW.tableIn (pc := 6) (tgt := 61) dX11_count_6 hw (by decide) (by decide) rfl (by decide) ?_
      refine PW.aload_n (pc := 61) dX11_count_61 rfl ?_
      refine PW.getr (pc := 62) dX11_count_62 fl_X11_20 M.g112 M.r5 ?_
      refine PW.bipush (pc := 65) dX11_count_65 (by decide) ?_
      refine PW.iald (pc := 67) dX11_count_67 M.g116 (by omega) (by omega) (by omega) ?_
      rw [n25]
      exact PW.ireturn (pc := 68) dX11_count_68 rfl (MPo.of z1 h1)
    · refine PW.aload_n (pc := 0) dX11_count_0 rfl ?_
      refine PW.iconst (pc := 1) dX11_count_1 ?_
      refine PW.puti (pc := 2) dX11_count_2 fl_X11_104 M.g112 ?_
      rw [hI1]
      refine PW.iload_n (pc := 5) dX11_count_5 rfl ?_
      refine PW.tableIn (pc := 6) (tgt := 69) dX11_count_6 hw (by decide) (by decide) rfl (by decide) ?_
      refine PW.aload_n (pc := 69) dX11_count_69 rfl ?_
      refine PW.getr (pc := 70) dX11_count_70 fl_X11_20 M.g112 M.r5 ?_
      refine PW.iconst (pc := 73) dX11_count_73 ?_
      refine PW.iald (pc := 74) dX11_count_74 M.g116 (by omega) (by omega) (by omega) ?_
      rw [n1]
      exact PW.ireturn (pc := 75) dX11_count_75 rfl (MPo.of z1 h1)
    · refine PW.aload_n (pc := 0) dX11_count_0 rfl ?_
      refine PW.iconst (pc := 1) dX11_count_1 ?_
      refine PW.puti (pc := 2) dX11_count_2 fl_X11_104 M.g112 ?_
      rw [hI1]
      refine PW.iload_n (pc := 5) dX11_count_5 rfl ?_
      refine PW.tableIn (pc := 6) (tgt := 76) dX11_count_6 hw (by decide) (by decide) rfl (by decide) ?_
      refine PW.aload_n (pc := 76) dX11_count_76 rfl ?_
      refine PW.getr (pc := 77) dX11_count_77 fl_X11_20 M.g112 M.r5 ?_
      refine PW.bipush (pc := 80) dX11_count_80 (by decide) ?_
      refine PW.iload_n (pc := 82) dX11_count_82 rfl ?_
      refine PW.iadd (pc := 83) dX11_count_83 ?_
      refine PW.iconst (pc := 84) dX11_count_84 ?_
      refine PW.isub (pc := 85) dX11_count_85 ?_
      refine PW.iald (pc := 86) dX11_count_86 M.g116 (by omega) (by omega) (by omega) ?_
      rw [show I1 116 (26 + 3 - 3) = vl (cNow s) from n26]
      exact PW.ireturn (pc := 87) dX11_count_87 rfl (MPo.of z1 h1)
    · refine PW.aload_n (pc := 0) dX11_count_0 rfl ?_
      refine PW.iconst (pc := 1) dX11_count_1 ?_
      refine PW.puti (pc := 2) dX11_count_2 fl_X11_104 M.g112 ?_
      rw [hI1]
      refine PW.iload_n (pc := 5) dX11_count_5 rfl ?_
      refine PW.tableIn (pc := 6) (tgt := 76) dX11_count_6 hw (by decide) (by decide) rfl (by decide) ?_
      refine PW.aload_n (pc := 76) dX11_count_76 rfl ?_
      refine PW.getr (pc := 77) dX11_count_77 fl_X11_20 M.g112 M.r5 ?_
      refine PW.bipush (pc := 80) dX11_count_80 (by decide) ?_
      refine PW.iload_n (pc := 82) dX11_count_82 rfl ?_
      refine PW.iadd (pc := 83) dX11_count_83 ?_
      refine PW.iconst (pc := 84) dX11_count_84 ?_
      refine PW.isub (pc := 85) dX11_count_85 ?_
      refine PW.iald (pc := 86) dX11_count_86 M.g116 (by omega) (by omega) (by omega) ?_
      rw [show I1 116 (26 + 4 - 3) = vf (cNow s) from n27]
      exact PW.ireturn (pc := 87) dX11_count_87 rfl (MPo.of z1 h1)
    · refine PW.aload_n (pc := 0) dX11_count_0 rfl ?_
      refine PW.iconst (pc := 1) dX11_count_1 ?_
      refine PW.puti (pc := 2) dX11_count_2 fl_X11_104 M.g112 ?_
      rw [hI1]
      refine PW.iload_n (pc := 5) dX11_count_5 rfl ?_
      refine PW.tableIn (pc := 6) (tgt := 76) dX11_count_6 hw (by decide) (by decide) rfl (by decide) ?_
      refine PW.aload_n (pc := 76) dX11_count_76 rfl ?_
      refine PW.getr (pc := 77) dX11_count_77 fl_X11_20 M.g112 M.r5 ?_
      refine PW.bipush (pc := 80) dX11_count_80 (by decide) ?_
      refine PW.iload_n (pc := 82) dX11_count_82 rfl ?_
      refine PW.iadd (pc := 83) dX11_count_83 ?_
      refine PW.iconst (pc := 84) dX11_count_84 ?_
      refine PW.isub (pc := 85) dX11_count_85 ?_
      refine PW.iald (pc := 86) dX11_count_86 M.g116 (by omega) (by omega) (by omega) ?_
      rw [show I1 116 (26 + 5 - 3) = vw (cNow s) from n28]
      exact PW.ireturn (pc := 87) dX11_count_87 rfl (MPo.of z1 h1)
    · refine PW.aload_n (pc := 0) dX11_count_0 rfl ?_
      refine PW.iconst (pc := 1) dX11_count_1 ?_
      refine PW.puti (pc := 2) dX11_count_2 fl_X11_104 M.g112 ?_
      rw [hI1]
      refine PW.iload_n (pc := 5) dX11_count_5 rfl ?_
      refine PW.tableIn (pc := 6) (tgt := 88) dX11_count_6 hw (by decide) (by decide) rfl (by decide) ?_
      refine PW.aload_n (pc := 88) dX11_count_88 rfl ?_
      refine PW.geti (pc := 89) dX11_count_89 fl_X11_168 (by decide) M.g112 ?_
      rw [e6]
      exact PW.ireturn (pc := 92) dX11_count_92 rfl (MPo.of z1 h1)
    · refine PW.aload_n (pc := 0) dX11_count_0 rfl ?_
      refine PW.iconst (pc := 1) dX11_count_1 ?_
      refine PW.puti (pc := 2) dX11_count_2 fl_X11_104 M.g112 ?_
      rw [hI1]
      refine PW.iload_n (pc := 5) dX11_count_5 rfl ?_
      refine PW.tableIn (pc := 6) (tgt := 93) dX11_count_6 hw (by decide) (by decide) rfl (by decide) ?_
      refine PW.aload_n (pc := 93) dX11_count_93 rfl ?_
      refine PW.geti (pc := 94) dX11_count_94 fl_X11_126 (by decide) M.g112 ?_
      rw [e7]
      exact PW.ireturn (pc := 97) dX11_count_97 rfl (MPo.of z1 h1)
    · refine PW.aload_n (pc := 0) dX11_count_0 rfl ?_
      refine PW.iconst (pc := 1) dX11_count_1 ?_
      refine PW.puti (pc := 2) dX11_count_2 fl_X11_104 M.g112 ?_
      rw [hI1]
      refine PW.iload_n (pc := 5) dX11_count_5 rfl ?_
      refine PW.tableIn (pc := 6) (tgt := 98) dX11_count_6 hw (by decide) (by decide) rfl (by decide) ?_
      refine PW.aload_n (pc := 98) dX11_count_98 rfl ?_
      refine PW.geti (pc := 99) dX11_count_99 fl_X11_165 (by decide) M.g112 ?_
      rw [e8]
      exact PW.ireturn (pc := 102) dX11_count_102 rfl (MPo.of z1 h1)
/-! needed -/
def nix (m f : Nat) : Nat := (if m = 0 then 0 else if m = 1 then 1 else if m = 2 then 4 else if m = 3 then 7 else 8) + ((List.range f).filter (fun (g : Nat) => decide (pcn (g : Int) = (m : Int)))).length
set_option maxRecDepth 100000 in
set_option maxHeartbeats 1000000 in
theorem nix_d : ∀ m : Fin 4, ∀ f : Fin 8, (pcn (f.val : Int) = (m.val : Int) → [0, 1, 2, 4, 3, 5, 6, 7].drop (nix m.val f.val) = (f.val : Int) :: [0, 1, 2, 4, 3, 5, 6, 7].drop (nix m.val (f.val + 1))) ∧ (pcn (f.val : Int) ≠ (m.val : Int) → nix m.val (f.val + 1) = nix m.val f.val) := by decide +kernel
set_option maxRecDepth 100000 in
set_option maxHeartbeats 1000000 in
theorem nix_8 : ∀ m : Fin 4, nix m.val 8 = nix (m.val + 1) 0 := by decide +kernel
set_option maxRecDepth 100000 in
set_option maxHeartbeats 1000000 in
theorem q_needed (d : Nat) {I : PIm} {s : CS} (M : MAt Γ R) (h : MVal s I) : PC sc mX11_needed (d + 7) 0 0 [.inr (some 112)] Γ I R (MPo Γ I R (sp_needed s) s) := by
  rw [sp_needed_eq]
  have outer : ∀ (N m : Nat) (I2 : PIm) (o : Option PV), 4 - m = N → m ≤ 4 → MVal s I2 → (∀ q, q < 112 → I2 q = I q) → PW sc mX11_needed (d + 7) 0 0 (MPo Γ I R (nfrom s ([0, 1, 2, 4, 3, 5, 6, 7].drop (nix m 0))) s) 7 [some (.inr (some 112)), some (.inl (m : Int)), o] [] Γ I2 R := by
    intro N
    induction N using Nat.strongRecOn with
    | _ N ih =>
      intro m I2 o hN hm V2 lo2
      by_cases hm4 : m < 4
      · have inner : ∀ (N2 f : Nat) (I1 : PIm), 8 - f = N2 → f ≤ 8 → MVal s I1 → (∀ q, q < 112 → I1 q = I q) → PW sc mX11_needed (d + 7) 0 0 (MPo Γ I R (nfrom s ([0, 1, 2, 4, 3, 5, 6, 7].drop (nix m f))) s) 14 [some (.inr (some 112)), some (.inl (m : Int)), some (.inl (f : Int))] [] Γ I1 R := by
          intro N2
          induction N2 using Nat.strongRecOn with
          | _ N2 ih2 =>
            intro f I1 hN2 hf h1 lo1
            by_cases hf8 : f < 8
            · obtain ⟨d1, d2⟩ := nix_d ⟨m, hm4⟩ ⟨f, hf8⟩
              dsimp only at d1 d2
              have pr := pcn_rg (f : Int)
              obtain ⟨vT, ⟨tb, vF⟩, ⟨vN, vNo⟩, vH, vI, vS⟩ := id h1
              obtain ⟨n1, n2, n25, n26, n27, n28⟩ := id vN
              obtain ⟨vNok, vNoF⟩ := id vNo
              have PM := vN.prog vNok
              have ON := c_X11_ones (sc := sc) (Γ := Γ) (R := R) (I := I1) (d + 5) (x := (f : Int)) (by omega) (by omega)
              by_cases qp : pcn (f : Int) = (m : Int)
              · rw [d1 qp, nfrom]
                have RN := c_X11_runs (sc := sc) (Γ := Γ) (R := R) d (fw := (f : Int)) (w := 0) M PM n26 vNok.2.2.1 (Or.inl rfl) vF.2.1 vF.2.2.1
                refine PW.iload_n (pc := 14) dX11_needed_14 rfl ?_
                refine PW.bipush (pc := 15) dX11_needed_15 (by decide) ?_
                refine PW.icmp_ge (pc := 17) (tgt := 56) dX11_needed_17 (by decide) (by first | omega | exact rg_of _) (by first | omega | exact rg_of _) (fun c_17 => ?_) (fun c_17 => ?_)
                · omega
                · refine PW.iload_n (pc := 20) dX11_needed_20 rfl ?_
                  refine PW.invS0x (pc := 21) dX11_needed_21 ms_X11_242 (ON) rfl rfl (Nat.le_of_ble_eq_true rfl) ?_
                  refine PW.iload_n (pc := 24) dX11_needed_24 rfl ?_
                  refine PW.icmp_ne (pc := 25) (tgt := 50) dX11_needed_25 (by decide) (by first | omega | exact rg_of _) (by first | omega | exact rg_of _) (fun c_25 => ?_) (fun c_25 => ?_)
                  · exact absurd qp c_25
                  · refine PW.aload_n (pc := 28) dX11_needed_28 rfl ?_
                    refine PW.iload_n (pc := 29) dX11_needed_29 rfl ?_
                    refine PW.iconst (pc := 30) dX11_needed_30 ?_
                    refine PW.invV0 (pc := 31) dX11_needed_31 mv_X11_220 (RN) M.g112 rfl rfl (Nat.le_of_ble_eq_true rfl) ?_
                    (rintro v Γ' I' R' ⟨rfl, rfl, rfl, tb', rn⟩)
                    refine PW.aload_n (pc := 34) dX11_needed_34 rfl ?_
                    refine PW.aload_n (pc := 35) dX11_needed_35 rfl ?_
                    refine PW.getr (pc := 36) dX11_needed_36 fl_X11_20 M.g112 M.r5 ?_
                    refine PW.bipush (pc := 39) dX11_needed_39 (by decide) ?_
                    refine PW.iald (pc := 41) dX11_needed_41 M.g116 (by omega) (by omega) (by omega) ?_
                    rw [rn.lo 116 (by omega) (by omega), n25]
                    refine PW.invV0 (pc := 42) dX11_needed_42 mv_X11_239 (c_wrongRun _ M h1 vF vNok.1 rn) M.g112 rfl rfl (Nat.le_of_ble_eq_true rfl) ?_
                    (rintro v Γ' I3 R' ⟨rfl, rfl, rfl, y⟩)
                    have V3 := (h1.run vF rn).c137 y
                    have lo3 : ∀ q, q < 112 → I3 q = I q := fun q g => by rw [y q (by omega), rn.lo q (by omega) (by omega), lo1 q g]
                    have wr := wrg_rg (cF s) (vi (cNow s)) (vP (cNow s)) (vl (cNow s)) (f : Int) 0 (vn (cNow s))
                    refine PW.if_ne (pc := 45) (tgt := 50) dX11_needed_45 (by decide) (by first | omega | exact rg_of _) (fun c_45 => ?_) (fun c_45 => ?_)
                    · refine PW.iinc (pc := 50) dX11_needed_50 rfl (by decide) ?_
                      refine PW.goto (pc := 53) (tgt := 14) dX11_needed_53 (by decide) ?_
                      rw [if_neg (show ¬ cdec (ndOK s f) = true from fun o => c_45 (cdec_true.mp o))]; exact ih2 (8 - (f + 1)) (by omega) (f + 1) I3 rfl (by omega) V3 lo3
                    · refine PW.iload_n (pc := 48) dX11_needed_48 rfl ?_
                      exact PW.ireturn (pc := 49) dX11_needed_49 rfl (by rw [if_pos (cdec_true.mpr (show ndOK s f from c_45))]; exact MPo.of lo3 V3)
              · rw [← d2 qp]
                refine PW.iload_n (pc := 14) dX11_needed_14 rfl ?_
                refine PW.bipush (pc := 15) dX11_needed_15 (by decide) ?_
                refine PW.icmp_ge (pc := 17) (tgt := 56) dX11_needed_17 (by decide) (by first | omega | exact rg_of _) (by first | omega | exact rg_of _) (fun c_17 => ?_) (fun c_17 => ?_)
                · omega
                · refine PW.iload_n (pc := 20) dX11_needed_20 rfl ?_
                  refine PW.invS0x (pc := 21) dX11_needed_21 ms_X11_242 (ON) rfl rfl (Nat.le_of_ble_eq_true rfl) ?_
                  refine PW.iload_n (pc := 24) dX11_needed_24 rfl ?_
                  refine PW.icmp_ne (pc := 25) (tgt := 50) dX11_needed_25 (by decide) (by first | omega | exact rg_of _) (by first | omega | exact rg_of _) (fun c_25 => ?_) (fun c_25 => ?_)
                  · refine PW.iinc (pc := 50) dX11_needed_50 rfl (by decide) ?_
                    refine PW.goto (pc := 53) (tgt := 14) dX11_needed_53 (by decide) ?_
                    exact ih2 (8 - (f + 1)) (by omega) (f + 1) I1 rfl (by omega) h1 lo1
                  · exact absurd c_25 qp
            · obtain rfl : f = 8 := by omega
              rw [nix_8 ⟨m, hm4⟩]
              refine PW.iload_n (pc := 14) dX11_needed_14 rfl ?_
              refine PW.bipush (pc := 15) dX11_needed_15 (by decide) ?_
              refine PW.icmp_ge (pc := 17) (tgt := 56) dX11_needed_17 (by decide) (by first | omega | exact rg_of _) (by first | omega | exact rg_of _) (fun c_17 => ?_) (fun c_17 => ?_)
              · refine PW.iinc (pc := 56) dX11_needed_56 rfl (by decide) ?_
                refine PW.goto (pc := 59) (tgt := 7) dX11_needed_59 (by decide) ?_
                exact ih (4 - (m + 1)) (by omega) (m + 1) I1 _ rfl (by omega) h1 lo1
              · omega
        refine PW.iload_n (pc := 7) dX11_needed_7 rfl ?_
        refine PW.iconst (pc := 8) dX11_needed_8 ?_
        refine PW.icmp_ge (pc := 9) (tgt := 62) dX11_needed_9 (by decide) (by first | omega | exact rg_of _) (by first | omega | exact rg_of _) (fun c_9 => ?_) (fun c_9 => ?_)
        · omega
        · refine PW.iconst (pc := 12) dX11_needed_12 ?_
          refine PW.istore_n (pc := 13) dX11_needed_13 (by decide) ?_
          exact inner 8 0 I2 rfl (by omega) V2 lo2
      · obtain rfl : m = 4 := by omega
        refine PW.iload_n (pc := 7) dX11_needed_7 rfl ?_
        refine PW.iconst (pc := 8) dX11_needed_8 ?_
        refine PW.icmp_ge (pc := 9) (tgt := 62) dX11_needed_9 (by decide) (by first | omega | exact rg_of _) (by first | omega | exact rg_of _) (fun c_9 => ?_) (fun c_9 => ?_)
        · refine PW.bipush (pc := 62) dX11_needed_62 (by decide) ?_
          exact PW.ireturn (pc := 64) dX11_needed_64 rfl (MPo.of lo2 V2)
        · omega
  refine PC.ofPW (by decide) (Nat.le_of_ble_eq_true rfl) ?_
  refine PW.aload_n (pc := 0) dX11_needed_0 rfl ?_
  refine PW.iconst (pc := 1) dX11_needed_1 ?_
  refine PW.puti (pc := 2) dX11_needed_2 fl_X11_104 M.g112 ?_
  refine PW.iconst (pc := 5) dX11_needed_5 ?_
  refine PW.istore_n (pc := 6) dX11_needed_6 (by decide) ?_
  exact outer 4 0 _ _ rfl (by omega) h.thr (fun q g => pw_up_ne q (by omega))
set_option maxRecDepth 100000 in
set_option maxHeartbeats 1000000 in
theorem few_led : ∀ f : Fin 64, ∀ x : Fin 64, pw_and (f.val : Int) (pw_xor (x.val : Int) (-1)) = 0 → f.val ≤ x.val := by decide +kernel
set_option maxRecDepth 100000 in
set_option maxHeartbeats 1000000 in
theorem few_le {f x : Int} (f0 : 0 ≤ f) (f1 : f < 64) (x0 : 0 ≤ x) (x1 : x < 64) (h : pw_and f (pw_xor x (-1)) = 0) : f ≤ x := by
  have := few_led ⟨f.toNat, by omega⟩ ⟨x.toNat, by omega⟩
  simp only [Int.toNat_of_nonneg f0, Int.toNat_of_nonneg x0] at this
  have := this h
  omega
set_option maxRecDepth 100000 in
set_option maxHeartbeats 1000000 in
theorem shl_pow : ∀ n : Fin 7, pw_shl 1 (n.val : Int) = 2 ^ n.val := by decide +kernel
set_option maxRecDepth 100000 in
set_option maxHeartbeats 1000000 in
theorem q_fewest (d : Nat) {I : PIm} {s : CS} (M : MAt Γ R) (h : MVal s I) : PC sc mX11_fewest (d + 8) 0 0 [.inr (some 112)] Γ I R (MPo Γ I R (sp_fewest s) s) := by
  have h1 := h.thr
  have z1 : ∀ q, q < 112 → pw_up I 112 0 0 q = I q := fun q g => pw_up_ne q (by omega)
  generalize hI1 : pw_up I 112 0 0 = I1 at h1 z1
  obtain ⟨vT, ⟨tb, vF⟩, ⟨vN, vNo⟩, vH, vI, vS⟩ := id h1
  obtain ⟨n1, n2, n25, n26, n27, n28⟩ := id vN
  obtain ⟨vNok, vNoF⟩ := id vNo
  have PM := vN.prog vNok
  have o1 : vn (cNow s) ≤ 6 := vNok.1
  have o3 : 0 ≤ vl (cNow s) ∧ vl (cNow s) ≤ 3 := vNok.2.2.1
  have o4 : 0 ≤ vf (cNow s) ∧ vf (cNow s) ≤ 7 := vNok.2.2.2.1
  have o5 : 0 ≤ vw (cNow s) ∧ vw (cNow s) ≤ 1 := vNok.2.2.2.2.1
  have o6 : 0 ≤ vi (cNow s) ∧ vi (cNow s) < 64 := vNok.2.2.2.2.2
  have hF6 := vF.1.2.1
  have p2 := shl_pow ⟨(cF s).1, by omega⟩
  dsimp only at p2
  have ep : ((2 ^ (cF s).1 : Nat) : Int) = (2 : Int) ^ (cF s).1 := by simp
  have p64 : (2 : Int) ^ (cF s).1 ≤ 64 ∧ 0 < (2 : Int) ^ (cF s).1 := by
    have : (2 : Nat) ^ (cF s).1 ≤ 2 ^ 6 := Nat.pow_le_pow_right (by omega) hF6
    have := Nat.two_pow_pos (cF s).1
    omega
  have RN := c_X11_runsNow (sc := sc) (Γ := Γ) (R := R) d M PM n26 o3 n27 n28 (by omega) vF.2.1 vF.2.2.1
  have outer : ∀ (I' : PIm) (tb' : Int → Tm), MRun I1 I' tb tb' (vP (cNow s)) (vl (cNow s)) (vf (cNow s)) (vw (cNow s)) (vn (cNow s)) → ∀ (N m : Nat) (I2 : PIm) (o : Option PV), (cF s).1 + 1 - m = N → m ≤ (cF s).1 + 1 → (∀ q, q ≠ 137 → I2 q = I' q) → (∀ g, fewOK s g → (m : Int) ≤ pcn g) → PW sc mX11_fewest (d + 8) 0 0 (MPo Γ I R (sp_fewest s) s) 11 [some (.inr (some 112)), some (.inl (m : Int)), o] [] Γ I2 R := by
    intro I' tb' rn N
    have V2 := h1.run vF rn
    have e1' : I' 112 1 = (cF s).1 := by rw [rn.2.2.2.2.2.2 112 1 (by omega)]; exact vF.1.1
    have lo : ∀ q, q < 112 → I' q = I q := fun q g => by rw [rn.lo q (by omega) (by omega), z1 q g]
    have e25 : I' 116 25 = vi (cNow s) := by rw [rn.lo 116 (by omega) (by omega)]; exact n25
    induction N using Nat.strongRecOn with
    | _ N ih =>
      intro m I2 o hN hm y2 hno
      have f1 : I2 112 1 = (cF s).1 := by rw [y2 112 (by omega)]; exact e1'
      by_cases hml : m ≤ (cF s).1
      · have inner : ∀ (N2 t : Nat) (I3 : PIm), 2 ^ (cF s).1 - t = N2 → t ≤ 2 ^ (cF s).1 → (∀ q, q ≠ 137 → I3 q = I' q) → (∀ g, fewOK s g → pcn g = m → (t : Int) ≤ g) → PW sc mX11_fewest (d + 8) 0 0 (MPo Γ I R (sp_fewest s) s) 21 [some (.inr (some 112)), some (.inl (m : Int)), some (.inl (t : Int))] [] Γ I3 R := by
          intro N2
          induction N2 using Nat.strongRecOn with
          | _ N2 ih2 =>
            intro t I3 hN2 ht y3 hn2
            have f13 : I3 112 1 = (cF s).1 := by rw [y3 112 (by omega)]; exact e1'
            have rn3 : MRun I1 I3 tb tb' (vP (cNow s)) (vl (cNow s)) (vf (cNow s)) (vw (cNow s)) (vn (cNow s)) ∨ True := Or.inr trivial
            by_cases htl : t < 2 ^ (cF s).1
            · have pr := pcn_rg (t : Int)
              have ON := c_X11_ones (sc := sc) (Γ := Γ) (R := R) (I := I3) (d + 6) (x := (t : Int)) (by omega) (by omega)
              have nx : ∀ (I4 : PIm), (∀ q, q ≠ 137 → I4 q = I' q) → (fewOK s t → pcn t ≠ m) → PW sc mX11_fewest (d + 8) 0 0 (MPo Γ I R (sp_fewest s) s) 21 [some (.inr (some 112)), some (.inl (m : Int)), some (.inl ((t : Int) + 1))] [] Γ I4 R := fun I4 y4 hq => ih2 _ (by omega) (t + 1) I4 rfl (by omega) y4 (fun g hg hp => by
                have := hn2 g hg hp
                have : g ≠ t := fun e => by rw [e] at hg hp; exact hq hg hp
                omega)
              by_cases qp : pcn (t : Int) = (m : Int)
              · by_cases qa : pw_and (t : Int) (pw_xor (vi (cNow s)) (-1)) = 0
                · have WB : PC sc mX11_wrongBy (d + 7) 0 0 [.inr (some 112), .inl (t : Int)] Γ I3 R (fun v Γ' I2 R' => v = some (.inl (wrg (cF s) t (vP (cNow s)) (vl (cNow s)) (vf (cNow s)) (vw (cNow s)) (vn (cNow s)))) ∧ Γ' = Γ ∧ R' = R ∧ (∀ q, q ≠ 137 → I2 q = I3 q)) := by
                    obtain ⟨F1, F2, F3⟩ := vF.run rn
                    have z13 := rn.2.1
                    have z104 := vF.2.2.1
                    have e13 : I3 112 13 = I' 112 13 := by rw [y3 112 (by omega)]
                    have e140 : I3 140 = I' 140 := y3 140 (by omega)
                    refine c_X11_wrongBy (d + 5) M ?_ (by omega) ?_ ?_ ?_ (tb := tb')
                    · rw [e13]; exact rn.1.cg (fun q a b k _ _ => by rw [y3 q (by omega)])
                    · rw [e13]; exact F2.cg (by rw [y3 112 (by omega)]) (fun q a b => y3 q (by omega)) (Int.le_refl _) (fun _ _ _ => rfl)
                    · rw [e13]; exact F3
                    · rw [e13, e140]; exact rn.2.2.2.2.1
                  have wr := wrg_rg (cF s) t (vP (cNow s)) (vl (cNow s)) (vf (cNow s)) (vw (cNow s)) (vn (cNow s))
                  have le := few_le (f := (t : Int)) (x := vi (cNow s)) (by omega) (by omega) o6.1 o6.2 qa
                  refine PW.iload_n (pc := 21) dX11_fewest_21 rfl ?_
                  refine PW.iconst (pc := 22) dX11_fewest_22 ?_
                  refine PW.aload_n (pc := 23) dX11_fewest_23 rfl ?_
                  refine PW.geti (pc := 24) dX11_fewest_24 fl_X11_162 (by decide) M.g112 ?_
                  rw [f13]
                  refine PW.ishl (pc := 27) dX11_fewest_27 ?_
                  rw [p2]
                  refine PW.icmp_ge (pc := 28) (tgt := 69) dX11_fewest_28 (by decide) (by first | omega | exact rg_of _) (by first | omega | exact rg_of _) (fun c_28 => ?_) (fun c_28 => ?_)
                  · omega
                  · refine PW.iload_n (pc := 31) dX11_fewest_31 rfl ?_
                    refine PW.invS0x (pc := 32) dX11_fewest_32 ms_X11_242 (ON) rfl rfl (Nat.le_of_ble_eq_true rfl) ?_
                    refine PW.iload_n (pc := 35) dX11_fewest_35 rfl ?_
                    refine PW.icmp_ne (pc := 36) (tgt := 63) dX11_fewest_36 (by decide) (by first | omega | exact rg_of _) (by first | omega | exact rg_of _) (fun c_36 => ?_) (fun c_36 => ?_)
                    · exact absurd qp c_36
                    · refine PW.iload_n (pc := 39) dX11_fewest_39 rfl ?_
                      refine PW.aload_n (pc := 40) dX11_fewest_40 rfl ?_
                      refine PW.getr (pc := 41) dX11_fewest_41 fl_X11_20 M.g112 M.r5 ?_
                      refine PW.bipush (pc := 44) dX11_fewest_44 (by decide) ?_
                      refine PW.iald (pc := 46) dX11_fewest_46 M.g116 (by omega) (by omega) (by omega) ?_
                      rw [y3 116 (by omega), e25]
                      refine PW.iconst (pc := 47) dX11_fewest_47 ?_
                      refine PW.ixor (pc := 48) dX11_fewest_48 ?_
                      refine PW.iand (pc := 49) dX11_fewest_49 ?_
                      rw [qa]
                      refine PW.if_ne (pc := 50) (tgt := 63) dX11_fewest_50 (by decide) (by first | omega | exact rg_of _) (fun c_50 => ?_) (fun c_50 => ?_)
                      · omega
                      · refine PW.aload_n (pc := 53) dX11_fewest_53 rfl ?_
                        refine PW.iload_n (pc := 54) dX11_fewest_54 rfl ?_
                        refine PW.invV0 (pc := 55) dX11_fewest_55 mv_X11_239 (WB) M.g112 rfl rfl (Nat.le_of_ble_eq_true rfl) ?_
                        (rintro v Γ' I4 R' ⟨rfl, rfl, rfl, y⟩)
                        have y4 : ∀ q, q ≠ 137 → I4 q = I' q := fun q hq => by rw [y q hq, y3 q hq]
                        refine PW.if_ne (pc := 58) (tgt := 63) dX11_fewest_58 (by decide) (by first | omega | exact rg_of _) (fun c_58 => ?_) (fun c_58 => ?_)
                        · refine PW.iinc (pc := 63) dX11_fewest_63 rfl (by decide) ?_
                          refine PW.goto (pc := 66) (tgt := 21) dX11_fewest_66 (by decide) ?_
                          exact nx I4 y4 (fun ok => absurd ok.2.2 c_58)
                        · refine PW.iload_n (pc := 61) dX11_fewest_61 rfl ?_
                          exact PW.ireturn (pc := 62) dX11_fewest_62 rfl (by
                          have ok : fewOK s t := ⟨⟨by omega, le⟩, qa, c_58⟩
                          rw [sp_fewest_eq (Or.inl ⟨ok, fun g hg => by
                            have := hno g hg
                            by_cases e : pcn g = m
                            · right; exact ⟨by omega, hn2 g hg e⟩
                            · left; omega⟩)]
                          exact MPo.of (fun q g => by rw [y4 q (by omega), lo q g]) (V2.c137 y4))
                · refine PW.iload_n (pc := 21) dX11_fewest_21 rfl ?_
                  refine PW.iconst (pc := 22) dX11_fewest_22 ?_
                  refine PW.aload_n (pc := 23) dX11_fewest_23 rfl ?_
                  refine PW.geti (pc := 24) dX11_fewest_24 fl_X11_162 (by decide) M.g112 ?_
                  rw [f13]
                  refine PW.ishl (pc := 27) dX11_fewest_27 ?_
                  rw [p2]
                  refine PW.icmp_ge (pc := 28) (tgt := 69) dX11_fewest_28 (by decide) (by first | omega | exact rg_of _) (by first | omega | exact rg_of _) (fun c_28 => ?_) (fun c_28 => ?_)
                  · omega
                  · refine PW.iload_n (pc := 31) dX11_fewest_31 rfl ?_
                    refine PW.invS0x (pc := 32) dX11_fewest_32 ms_X11_242 (ON) rfl rfl (Nat.le_of_ble_eq_true rfl) ?_
                    refine PW.iload_n (pc := 35) dX11_fewest_35 rfl ?_
                    refine PW.icmp_ne (pc := 36) (tgt := 63) dX11_fewest_36 (by decide) (by first | omega | exact rg_of _) (by first | omega | exact rg_of _) (fun c_36 => ?_) (fun c_36 => ?_)
                    · exact absurd qp c_36
                    · refine PW.iload_n (pc := 39) dX11_fewest_39 rfl ?_
                      refine PW.aload_n (pc := 40) dX11_fewest_40 rfl ?_
                      refine PW.getr (pc := 41) dX11_fewest_41 fl_X11_20 M.g112 M.r5 ?_
                      refine PW.bipush (pc := 44) dX11_fewest_44 (by decide) ?_
                      refine PW.iald (pc := 46) dX11_fewest_46 M.g116 (by omega) (by omega) (by omega) ?_
                      rw [y3 116 (by omega), e25]
                      refine PW.iconst (pc := 47) dX11_fewest_47 ?_
                      refine PW.ixor (pc := 48) dX11_fewest_48 ?_
                      refine PW.iand (pc := 49) dX11_fewest_49 ?_
                      refine PW.if_ne (pc := 50) (tgt := 63) dX11_fewest_50 (by decide) (by first | omega | exact rg_of _) (fun c_50 => ?_) (fun c_50 => ?_)
                      · refine PW.iinc (pc := 63) dX11_fewest_63 rfl (by decide) ?_
                        refine PW.goto (pc := 66) (tgt := 21) dX11_fewest_66 (by decide) ?_
                        exact nx I3 y3 (fun ok => absurd ok.2.1 qa)
                      · exact absurd c_50 qa
              · refine PW.iload_n (pc := 21) dX11_fewest_21 rfl ?_
                refine PW.iconst (pc := 22) dX11_fewest_22 ?_
                refine PW.aload_n (pc := 23) dX11_fewest_23 rfl ?_
                refine PW.geti (pc := 24) dX11_fewest_24 fl_X11_162 (by decide) M.g112 ?_
                rw [f13]
                refine PW.ishl (pc := 27) dX11_fewest_27 ?_
                rw [p2]
                refine PW.icmp_ge (pc := 28) (tgt := 69) dX11_fewest_28 (by decide) (by first | omega | exact rg_of _) (by first | omega | exact rg_of _) (fun c_28 => ?_) (fun c_28 => ?_)
                · omega
                · refine PW.iload_n (pc := 31) dX11_fewest_31 rfl ?_
                  refine PW.invS0x (pc := 32) dX11_fewest_32 ms_X11_242 (ON) rfl rfl (Nat.le_of_ble_eq_true rfl) ?_
                  refine PW.iload_n (pc := 35) dX11_fewest_35 rfl ?_
                  refine PW.icmp_ne (pc := 36) (tgt := 63) dX11_fewest_36 (by decide) (by first | omega | exact rg_of _) (by first | omega | exact rg_of _) (fun c_36 => ?_) (fun c_36 => ?_)
                  · refine PW.iinc (pc := 63) dX11_fewest_63 rfl (by decide) ?_
                    refine PW.goto (pc := 66) (tgt := 21) dX11_fewest_66 (by decide) ?_
                    exact nx I3 y3 (fun _ => qp)
                  · exact absurd c_36 qp
            · obtain rfl : t = 2 ^ (cF s).1 := by omega
              have vF2 : vi (cNow s) < 2 ^ (cF s).1 := vNoF
              refine PW.iload_n (pc := 21) dX11_fewest_21 rfl ?_
              refine PW.iconst (pc := 22) dX11_fewest_22 ?_
              refine PW.aload_n (pc := 23) dX11_fewest_23 rfl ?_
              refine PW.geti (pc := 24) dX11_fewest_24 fl_X11_162 (by decide) M.g112 ?_
              rw [f13]
              refine PW.ishl (pc := 27) dX11_fewest_27 ?_
              rw [p2]
              refine PW.icmp_ge (pc := 28) (tgt := 69) dX11_fewest_28 (by decide) (by first | omega | exact rg_of _) (by first | omega | exact rg_of _) (fun c_28 => ?_) (fun c_28 => ?_)
              · refine PW.iinc (pc := 69) dX11_fewest_69 rfl (by decide) ?_
                refine PW.goto (pc := 72) (tgt := 11) dX11_fewest_72 (by decide) ?_
                exact ih _ (by omega) (m + 1) I3 _ rfl (by omega) y3 (fun g hg => by
                  have := hno g hg
                  have : pcn g ≠ m := fun e => by have := hn2 g hg e; have := hg.1.2; omega
                  omega)
              · omega
        refine PW.iload_n (pc := 11) dX11_fewest_11 rfl ?_
        refine PW.aload_n (pc := 12) dX11_fewest_12 rfl ?_
        refine PW.geti (pc := 13) dX11_fewest_13 fl_X11_162 (by decide) M.g112 ?_
        rw [f1]
        refine PW.icmp_gt (pc := 16) (tgt := 75) dX11_fewest_16 (by decide) (by first | omega | exact rg_of _) (by first | omega | exact rg_of _) (fun c_16 => ?_) (fun c_16 => ?_)
        · omega
        · refine PW.iconst (pc := 19) dX11_fewest_19 ?_
          refine PW.istore_n (pc := 20) dX11_fewest_20 (by decide) ?_
          exact inner _ 0 I2 rfl (by omega) y2 (fun g hg _ => hg.1.1)
      · have none_ : IsFew s (-9) := Or.inr ⟨rfl, fun g hg => by
          have h1 := hno g hg
          obtain ⟨⟨g0, g1⟩, -⟩ := hg
          have vF2 : vi (cNow s) < 2 ^ (cF s).1 := vNoF
          have := pcn_le ⟨(cF s).1, by omega⟩ ⟨g.toNat, by omega⟩ (by dsimp only; omega)
          simp only [Int.toNat_of_nonneg g0] at this
          omega⟩
        refine PW.iload_n (pc := 11) dX11_fewest_11 rfl ?_
        refine PW.aload_n (pc := 12) dX11_fewest_12 rfl ?_
        refine PW.geti (pc := 13) dX11_fewest_13 fl_X11_162 (by decide) M.g112 ?_
        rw [f1]
        refine PW.icmp_gt (pc := 16) (tgt := 75) dX11_fewest_16 (by decide) (by first | omega | exact rg_of _) (by first | omega | exact rg_of _) (fun c_16 => ?_) (fun c_16 => ?_)
        · refine PW.bipush (pc := 75) dX11_fewest_75 (by decide) ?_
          exact PW.ireturn (pc := 77) dX11_fewest_77 rfl (by rw [sp_fewest_eq none_]; exact MPo.of (fun q g => by rw [y2 q (by omega), lo q g]) (V2.c137 y2))
        · omega
  refine PC.ofPW (by decide) (Nat.le_of_ble_eq_true rfl) ?_
  refine PW.aload_n (pc := 0) dX11_fewest_0 rfl ?_
  refine PW.iconst (pc := 1) dX11_fewest_1 ?_
  refine PW.puti (pc := 2) dX11_fewest_2 fl_X11_104 M.g112 ?_
  rw [hI1]
  refine PW.aload_n (pc := 5) dX11_fewest_5 rfl ?_
  refine PW.invV0 (pc := 6) dX11_fewest_6 mv_X11_229 (RN) M.g112 rfl rfl (Nat.le_of_ble_eq_true rfl) ?_
  (rintro v Γ' I' R' ⟨rfl, rfl, rfl, tb', rn⟩)
  refine PW.iconst (pc := 9) dX11_fewest_9 ?_
  refine PW.istore_n (pc := 10) dX11_fewest_10 (by decide) ?_
  exact outer I' tb' rn _ 0 I' _ rfl (by omega) (fun _ _ => rfl) (fun g hg => (pcn_rg g).1)
end MPUBB
