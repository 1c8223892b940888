section MPUBA
variable {sc : PSc} {Γ : List PTy} {R : PRm}
set_option maxRecDepth 100000 in
set_option maxHeartbeats 1000000 in
theorem MPo.of {I I' : PIm} {a : Int} {s : CS} (hI : ∀ q, q < 112 → I' q = I q) (h : MVal s I') : MPo Γ I R a s (some (.inl a)) Γ I' R := ⟨rfl, rfl, rfl, hI, h⟩
set_option maxRecDepth 100000 in
set_option maxHeartbeats 1000000 in
theorem q_type (d : Nat) {I : PIm} {s : CS} {c : Int} (M : MAt Γ R) (h : MVal s I) (hc : Rg c) : PC sc mX11_type (d + 1) 0 0 [.inr (some 112), .inl c] Γ I R (MPo Γ I R (sp_type s c).1 (sp_type s c).2) := by
  have h1 := h.thr
  have z1 : ∀ q, q < 112 → pw_up I 112 0 0 q = I q := fun q g => pw_up_ne q (by omega)
  generalize hI1 : pw_up I 112 0 0 = I1 at h1 z1
  obtain ⟨vT, ⟨tb, vF⟩, ⟨vN, vNo⟩, vH, vI, vS⟩ := id h1
  obtain ⟨n1, n2, n25, n26, n27, n28⟩ := id vN
  obtain ⟨vNok, vNoF⟩ := id vNo
  have PM := vN.prog vNok
  have o1 : vn (cNow s) ≤ 6 := vNok.1
  have o3 : 0 ≤ vl (cNow s) ∧ vl (cNow s) ≤ 3 := vNok.2.2.1
  have o4 : 0 ≤ vf (cNow s) ∧ vf (cNow s) ≤ 7 := vNok.2.2.2.1
  have o5 : 0 ≤ vw (cNow s) ∧ vw (cNow s) ≤ 1 := vNok.2.2.2.2.1
  have o6 : 0 ≤ vi (cNow s) ∧ vi (cNow s) < 64 := vNok.2.2.2.2.2
  obtain ⟨w1, w2, w3⟩ := id vT
  have IN := c_X11_in (sc := sc) (Γ := Γ) (R := R) (I := I1) d (v := c) (a := 0) (b := 255) hc (by omega) (by omega)
  refine PC.ofPW (by decide) (Nat.le_of_ble_eq_true rfl) ?_
  unfold sp_type
  by_cases hb : c < 0 ∨ 255 < c
  · rw [if_pos hb]
    refine PW.aload_n (pc := 0) dX11_type_0 rfl ?_
    refine PW.iconst (pc := 1) dX11_type_1 ?_
    refine PW.puti (pc := 2) dX11_type_2 fl_X11_104 M.g112 ?_
    rw [hI1]
    refine PW.iload_n (pc := 5) dX11_type_5 rfl ?_
    refine PW.iconst (pc := 6) dX11_type_6 ?_
    refine PW.sipush (pc := 7) dX11_type_7 (by decide) ?_
    refine PW.invS0x (pc := 10) dX11_type_10 ms_X11_122 (IN) rfl rfl (Nat.le_of_ble_eq_true rfl) ?_
    refine PW.if_ne (pc := 13) (tgt := 18) dX11_type_13 (by decide) (rg_bi _) (fun c_13 => ?_) (fun c_13 => ?_)
    · exact absurd (bi1 c_13) (by omega)
    · refine PW.iconst (pc := 16) dX11_type_16 ?_
      exact PW.ireturn (pc := 17) dX11_type_17 rfl (MPo.of z1 h1)
  · rw [if_neg hb]
    by_cases hf : 100 ≤ cN s
    · rw [if_pos hf]
      refine PW.aload_n (pc := 0) dX11_type_0 rfl ?_
      refine PW.iconst (pc := 1) dX11_type_1 ?_
      refine PW.puti (pc := 2) dX11_type_2 fl_X11_104 M.g112 ?_
      rw [hI1]
      refine PW.iload_n (pc := 5) dX11_type_5 rfl ?_
      refine PW.iconst (pc := 6) dX11_type_6 ?_
      refine PW.sipush (pc := 7) dX11_type_7 (by decide) ?_
      refine PW.invS0x (pc := 10) dX11_type_10 ms_X11_122 (IN) rfl rfl (Nat.le_of_ble_eq_true rfl) ?_
      refine PW.if_ne (pc := 13) (tgt := 18) dX11_type_13 (by decide) (rg_bi _) (fun c_13 => ?_) (fun c_13 => ?_)
      · refine PW.aload_n (pc := 18) dX11_type_18 rfl ?_
        refine PW.geti (pc := 19) dX11_type_19 fl_X11_126 (by decide) M.g112 ?_
        rw [w1]
        refine PW.bipush (pc := 22) dX11_type_22 (by decide) ?_
        refine PW.icmp_ne (pc := 24) (tgt := 30) dX11_type_24 (by decide) (by first | omega | exact rg_of _) (by first | omega | exact rg_of _) (fun c_24 => ?_) (fun c_24 => ?_)
        · omega
        · refine PW.bipush (pc := 27) dX11_type_27 (by decide) ?_
          exact PW.ireturn (pc := 29) dX11_type_29 rfl (MPo.of z1 h1)
      · exact absurd c_13 (by rw [bi_pos (by omega)]; omega)
    · rw [if_neg hf]
      have x20 : pw_up I1 127 (cN s) c 112 20 = cN s := by rw [pw_up_other (by omega)]; exact w1
      have y : ∀ q k, ¬ (q = 127 ∨ (q = 112 ∧ k = 20)) → pw_up (pw_up I1 127 (cN s) c) 112 20 ((cN s : Int) + 1) q k = I1 q k := fun q k g => by rw [pw_up_other (by omega), pw_up_other (by omega)]
      have e20 : pw_up (pw_up I1 127 (cN s) c) 112 20 ((cN s : Int) + 1) 112 20 = (cN s : Int) + 1 := pw_up_self _ _ _ _
      have e127 : ∀ k, pw_up (pw_up I1 127 (cN s) c) 112 20 ((cN s : Int) + 1) 127 k = if k = (cN s : Int) then c else I1 127 k := fun k => by
        rw [pw_up_other (by omega)]
        by_cases q : k = (cN s : Int)
        · rw [if_pos q, q]; exact pw_up_self _ _ _ _
        · rw [if_neg q]; exact pw_up_other (by omega)
      generalize hI2 : pw_up (pw_up I1 127 (cN s) c) 112 20 ((cN s : Int) + 1) = I2 at y e20 e127
      have fy : ∀ q, q ≠ 127 → q ≠ 112 → I2 q = I1 q := fun q a b => by funext k; exact y q k (by omega)
      have V2 : MVal ((fun k => if k = (cN s : Int) then c else cTx s k, cN s + 1), s.2) I2 := by
        refine ⟨⟨e20, (by show cN s + 1 ≤ 100; omega), fun k k0 k1 => ?_⟩, ⟨tb, vF.cg rfl (y 112 1 (by omega)) (y 112 14 (by omega)) (fun q a b => fy q (by omega) (by omega)) (by rw [y 112 14 (by omega)]; exact vF.2.1.cg (fun q a b k _ _ => by rw [fy q (by omega) (by omega)])) (fun _ _ _ => rfl)⟩, ⟨by rw [fy 116 (by omega) (by omega)]; exact vN, vNo⟩, vH.cg rfl rfl rfl (y 112 7 (by omega)) (fy 117 (by omega) (by omega)), vI.cg rfl rfl (fy 118 (by omega) (by omega)) (fy 119 (by omega) (by omega)), vS.cg rfl rfl (y 112 10 (by omega)) (fy 120 (by omega) (by omega)) (fy 121 (by omega) (by omega))⟩
        rw [e127]
        show _ = (if k = (cN s : Int) then c else cTx s k) ∧ 0 ≤ (if k = (cN s : Int) then c else cTx s k) ∧ (if k = (cN s : Int) then c else cTx s k) ≤ 255
        have k1' : k < ((cN s + 1 : Nat) : Int) := k1
        by_cases q : k = (cN s : Int)
        · rw [if_pos q, if_pos q]; omega
        · rw [if_neg q, if_neg q]; exact w3 k k0 (by omega)
      refine PW.aload_n (pc := 0) dX11_type_0 rfl ?_
      refine PW.iconst (pc := 1) dX11_type_1 ?_
      refine PW.puti (pc := 2) dX11_type_2 fl_X11_104 M.g112 ?_
      rw [hI1]
      refine PW.iload_n (pc := 5) dX11_type_5 rfl ?_
      refine PW.iconst (pc := 6) dX11_type_6 ?_
      refine PW.sipush (pc := 7) dX11_type_7 (by decide) ?_
      refine PW.invS0x (pc := 10) dX11_type_10 ms_X11_122 (IN) rfl rfl (Nat.le_of_ble_eq_true rfl) ?_
      refine PW.if_ne (pc := 13) (tgt := 18) dX11_type_13 (by decide) (rg_bi _) (fun c_13 => ?_) (fun c_13 => ?_)
      · refine PW.aload_n (pc := 18) dX11_type_18 rfl ?_
        refine PW.geti (pc := 19) dX11_type_19 fl_X11_126 (by decide) M.g112 ?_
        rw [w1]
        refine PW.bipush (pc := 22) dX11_type_22 (by decide) ?_
        refine PW.icmp_ne (pc := 24) (tgt := 30) dX11_type_24 (by decide) (by first | omega | exact rg_of _) (by first | omega | exact rg_of _) (fun c_24 => ?_) (fun c_24 => ?_)
        · refine PW.aload_n (pc := 30) dX11_type_30 rfl ?_
          refine PW.getr (pc := 31) dX11_type_31 fl_X11_53 M.g112 M.r21 ?_
          refine PW.aload_n (pc := 34) dX11_type_34 rfl ?_
          refine PW.geti (pc := 35) dX11_type_35 fl_X11_126 (by decide) M.g112 ?_
          rw [w1]
          refine PW.iload_n (pc := 38) dX11_type_38 rfl ?_
          refine PW.iast (pc := 39) dX11_type_39 M.g127 (by omega) (by omega) (by omega) ?_
          refine PW.aload_n (pc := 40) dX11_type_40 rfl ?_
          refine PW.dup (pc := 41) dX11_type_41 ?_
          refine PW.geti (pc := 42) dX11_type_42 fl_X11_126 (by decide) M.g112 ?_
          rw [x20]
          refine PW.iconst (pc := 45) dX11_type_45 ?_
          refine PW.iadd (pc := 46) dX11_type_46 ?_
          refine PW.puti (pc := 47) dX11_type_47 fl_X11_126 M.g112 ?_
          rw [hI2]
          refine PW.aload_n (pc := 50) dX11_type_50 rfl ?_
          refine PW.geti (pc := 51) dX11_type_51 fl_X11_126 (by decide) M.g112 ?_
          rw [e20]
          exact PW.ireturn (pc := 54) dX11_type_54 rfl (MPo.of (fun q g => by rw [fy q (by omega) (by omega), z1 q g]) V2)
        · omega
      · exact absurd c_13 (by rw [bi_pos (by omega)]; omega)
set_option maxRecDepth 100000 in
set_option maxHeartbeats 1000000 in
theorem q_clear (d : Nat) {I : PIm} {s : CS} (M : MAt Γ R) (h : MVal s I) : PC sc mX11_clear d 0 0 [.inr (some 112)] Γ I R (MPo Γ I R (sp_clear s).1 (sp_clear s).2) := by
  have h1 := h.thr
  have z1 : ∀ q, q < 112 → pw_up I 112 0 0 q = I q := fun q g => pw_up_ne q (by omega)
  generalize hI1 : pw_up I 112 0 0 = I1 at h1 z1
  obtain ⟨vT, ⟨tb, vF⟩, ⟨vN, vNo⟩, vH, vI, vS⟩ := id h1
  obtain ⟨n1, n2, n25, n26, n27, n28⟩ := id vN
  obtain ⟨vNok, vNoF⟩ := id vNo
  have PM := vN.prog vNok
  have o1 : vn (cNow s) ≤ 6 := vNok.1
  have o3 : 0 ≤ vl (cNow s) ∧ vl (cNow s) ≤ 3 := vNok.2.2.1
  have o4 : 0 ≤ vf (cNow s) ∧ vf (cNow s) ≤ 7 := vNok.2.2.2.1
  have o5 : 0 ≤ vw (cNow s) ∧ vw (cNow s) ≤ 1 := vNok.2.2.2.2.1
  have o6 : 0 ≤ vi (cNow s) ∧ vi (cNow s) < 64 := vNok.2.2.2.2.2
  obtain ⟨w1, w2, w3⟩ := id vT
  have y : ∀ q k, ¬ (q = 112 ∧ k = 20) → pw_up I1 112 20 0 q k = I1 q k := fun q k g => pw_up_other (by omega)
  have e20 : pw_up I1 112 20 0 112 20 = 0 := pw_up_self _ _ _ _
  generalize hI2 : pw_up I1 112 20 0 = I2 at y e20
  have fy : ∀ q, q ≠ 112 → I2 q = I1 q := fun q b => by funext k; exact y q k (by omega)
  have V2 : MVal (sp_clear s).2 I2 := ⟨⟨e20, (by show 0 ≤ 100; omega), fun k k0 k1 => absurd k1 (by show ¬ k < ((0 : Nat) : Int); omega)⟩, ⟨tb, vF.cg rfl (y 112 1 (by omega)) (y 112 14 (by omega)) (fun q a b => fy q (by omega)) (by rw [y 112 14 (by omega)]; exact vF.2.1.cg (fun q a b k _ _ => by rw [fy q (by omega)])) (fun _ _ _ => rfl)⟩, ⟨by rw [fy 116 (by omega)]; exact vN, vNo⟩, vH.cg rfl rfl rfl (y 112 7 (by omega)) (fy 117 (by omega)), vI.cg rfl rfl (fy 118 (by omega)) (fy 119 (by omega)), vS.cg rfl rfl (y 112 10 (by omega)) (fy 120 (by omega)) (fy 121 (by omega))⟩
  refine PC.ofPW (by decide) (Nat.le_of_ble_eq_true rfl) ?_
  refine PW.aload_n (pc := 0) dX11_clear_0 rfl ?_
  refine PW.iconst (pc := 1) dX11_clear_1 ?_
  refine PW.puti (pc := 2) dX11_clear_2 fl_X11_104 M.g112 ?_
  rw [hI1]
  refine PW.aload_n (pc := 5) dX11_clear_5 rfl ?_
  refine PW.geti (pc := 6) dX11_clear_6 fl_X11_126 (by decide) M.g112 ?_
  rw [w1]
  refine PW.istore_n (pc := 9) dX11_clear_9 (by decide) ?_
  refine PW.aload_n (pc := 10) dX11_clear_10 rfl ?_
  refine PW.iconst (pc := 11) dX11_clear_11 ?_
  refine PW.puti (pc := 12) dX11_clear_12 fl_X11_126 M.g112 ?_
  rw [hI2]
  refine PW.iload_n (pc := 15) dX11_clear_15 rfl ?_
  exact PW.ireturn (pc := 16) dX11_clear_16 rfl (MPo.of (fun q g => by rw [fy q (by omega), z1 q g]) V2)
set_option maxRecDepth 100000 in
set_option maxHeartbeats 1000000 in
theorem q_forget (d : Nat) {I : PIm} {s : CS} (M : MAt Γ R) (h : MVal s I) : PC sc mX11_forget d 0 0 [.inr (some 112)] Γ I R (MPo Γ I R (sp_forget s).1 (sp_forget s).2) := by
  have h1 := h.thr
  have z1 : ∀ q, q < 112 → pw_up I 112 0 0 q = I q := fun q g => pw_up_ne q (by omega)
  generalize hI1 : pw_up I 112 0 0 = I1 at h1 z1
  obtain ⟨vT, ⟨tb, vF⟩, ⟨vN, vNo⟩, vH, vI, vS⟩ := id h1
  obtain ⟨n1, n2, n25, n26, n27, n28⟩ := id vN
  obtain ⟨vNok, vNoF⟩ := id vNo
  have PM := vN.prog vNok
  have o1 : vn (cNow s) ≤ 6 := vNok.1
  have o3 : 0 ≤ vl (cNow s) ∧ vl (cNow s) ≤ 3 := vNok.2.2.1
  have o4 : 0 ≤ vf (cNow s) ∧ vf (cNow s) ≤ 7 := vNok.2.2.2.1
  have o5 : 0 ≤ vw (cNow s) ∧ vw (cNow s) ≤ 1 := vNok.2.2.2.2.1
  have o6 : 0 ≤ vi (cNow s) ∧ vi (cNow s) < 64 := vNok.2.2.2.2.2
  have w1 := vS.1
  have y : ∀ q k, ¬ (q = 112 ∧ k = 10) → pw_up I1 112 10 0 q k = I1 q k := fun q k g => pw_up_other (by omega)
  have e10 : pw_up I1 112 10 0 112 10 = 0 := pw_up_self _ _ _ _
  generalize hI2 : pw_up I1 112 10 0 = I2 at y e10
  have fy : ∀ q, q ≠ 112 → I2 q = I1 q := fun q b => by funext k; exact y q k (by omega)
  have V2 : MVal (sp_forget s).2 I2 := ⟨vT.cg rfl (y 112 20 (by omega)) (fy 127 (by omega)), ⟨tb, vF.cg rfl (y 112 1 (by omega)) (y 112 14 (by omega)) (fun q a b => fy q (by omega)) (by rw [y 112 14 (by omega)]; exact vF.2.1.cg (fun q a b k _ _ => by rw [fy q (by omega)])) (fun _ _ _ => rfl)⟩, ⟨by rw [fy 116 (by omega)]; exact vN, vNo⟩, vH.cg rfl rfl rfl (y 112 7 (by omega)) (fy 117 (by omega)), vI.cg rfl rfl (fy 118 (by omega)) (fy 119 (by omega)), ⟨e10, (by show 0 ≤ 4; omega), fun k k0 k1 => absurd k1 (by show ¬ k < ((0 : Nat) : Int); omega)⟩⟩
  refine PC.ofPW (by decide) (Nat.le_of_ble_eq_true rfl) ?_
  refine PW.aload_n (pc := 0) dX11_forget_0 rfl ?_
  refine PW.iconst (pc := 1) dX11_forget_1 ?_
  refine PW.puti (pc := 2) dX11_forget_2 fl_X11_104 M.g112 ?_
  rw [hI1]
  refine PW.aload_n (pc := 5) dX11_forget_5 rfl ?_
  refine PW.geti (pc := 6) dX11_forget_6 fl_X11_168 (by decide) M.g112 ?_
  rw [w1]
  refine PW.istore_n (pc := 9) dX11_forget_9 (by decide) ?_
  refine PW.aload_n (pc := 10) dX11_forget_10 rfl ?_
  refine PW.iconst (pc := 11) dX11_forget_11 ?_
  refine PW.puti (pc := 12) dX11_forget_12 fl_X11_168 M.g112 ?_
  rw [hI2]
  refine PW.iload_n (pc := 15) dX11_forget_15 rfl ?_
  exact PW.ireturn (pc := 16) dX11_forget_16 rfl (MPo.of (fun q g => by rw [fy q (by omega), z1 q g]) V2)
set_option maxRecDepth 100000 in
set_option maxHeartbeats 1000000 in
theorem q_instruction (d : Nat) {I : PIm} {s : CS} {k w : Int} (M : MAt Γ R) (h : MVal s I) (hk : Rg k) (hw : Rg w) : PC sc mX11_instruction (d + 1) 0 0 [.inr (some 112), .inl k, .inl w] Γ I R (MPo Γ I R (sp_instruction s k w) s) := by
  have h1 := h.thr
  have z1 : ∀ q, q < 112 → pw_up I 112 0 0 q = I q := fun q g => pw_up_ne q (by omega)
  generalize hI1 : pw_up I 112 0 0 = I1 at h1 z1
  obtain ⟨vT, ⟨tb, vF⟩, ⟨vN, vNo⟩, vH, vI, vS⟩ := id h1
  obtain ⟨n1, n2, n25, n26, n27, n28⟩ := id vN
  obtain ⟨vNok, vNoF⟩ := id vNo
  have PM := vN.prog vNok
  have o1 : vn (cNow s) ≤ 6 := vNok.1
  have o3 : 0 ≤ vl (cNow s) ∧ vl (cNow s) ≤ 3 := vNok.2.2.1
  have o4 : 0 ≤ vf (cNow s) ∧ vf (cNow s) ≤ 7 := vNok.2.2.2.1
  have o5 : 0 ≤ vw (cNow s) ∧ vw (cNow s) ≤ 1 := vNok.2.2.2.2.1
  have o6 : 0 ≤ vi (cNow s) ∧ vi (cNow s) < 64 := vNok.2.2.2.2.2
  unfold sp_instruction
  have IN1 := c_X11_in (sc := sc) (Γ := Γ) (R := R) (I := I1) d (v := k) (a := 0) (b := (vn (cNow s) : Int) - 1) hk (by omega) (by omega)
  have IN2 := c_X11_in (sc := sc) (Γ := Γ) (R := R) (I := I1) d (v := w) (a := 0) (b := 3) hw (by omega) (by omega)
  refine PC.ofPW (by decide) (Nat.le_of_ble_eq_true rfl) ?_
  by_cases q : (0 ≤ k ∧ k < (vn (cNow s) : Int)) ∧ (0 ≤ w ∧ w ≤ 3)
  · rw [if_pos q]
    obtain ⟨x0, x1, x2, x3⟩ := n2 k q.1.1 q.1.2
    have ef : I1 116 (1 + 4 * k + w) = fldOf (vP (cNow s) k) w := by
      unfold fldOf
      rcases (show w = 0 ∨ w = 1 ∨ w = 2 ∨ w = 3 by omega) with rfl | rfl | rfl | rfl
      · rw [if_pos rfl]; exact x0
      · rw [if_neg (by omega), if_pos rfl]; exact x1
      · rw [if_neg (by omega), if_neg (by omega), if_pos rfl]; exact x2
      · rw [if_neg (by omega), if_neg (by omega), if_neg (by omega)]; exact x3
    refine PW.aload_n (pc := 0) dX11_instruction_0 rfl ?_
    refine PW.iconst (pc := 1) dX11_instruction_1 ?_
    refine PW.puti (pc := 2) dX11_instruction_2 fl_X11_104 M.g112 ?_
    rw [hI1]
    refine PW.iload_n (pc := 5) dX11_instruction_5 rfl ?_
    refine PW.iconst (pc := 6) dX11_instruction_6 ?_
    refine PW.aload_n (pc := 7) dX11_instruction_7 rfl ?_
    refine PW.getr (pc := 8) dX11_instruction_8 fl_X11_20 M.g112 M.r5 ?_
    refine PW.iconst (pc := 11) dX11_instruction_11 ?_
    refine PW.iald (pc := 12) dX11_instruction_12 M.g116 (by omega) (by omega) (by omega) ?_
    rw [n1]
    refine PW.iconst (pc := 13) dX11_instruction_13 ?_
    refine PW.isub (pc := 14) dX11_instruction_14 ?_
    refine PW.invS0x (pc := 15) dX11_instruction_15 ms_X11_122 (IN1) rfl rfl (Nat.le_of_ble_eq_true rfl) ?_
    refine PW.if_eq (pc := 18) (tgt := 39) dX11_instruction_18 (by decide) (rg_bi _) (fun c_18 => ?_) (fun c_18 => ?_)
    · exact absurd c_18 (by rw [bi_pos (by omega)]; omega)
    · refine PW.iload_n (pc := 21) dX11_instruction_21 rfl ?_
      refine PW.iconst (pc := 22) dX11_instruction_22 ?_
      refine PW.iconst (pc := 23) dX11_instruction_23 ?_
      refine PW.invS0x (pc := 24) dX11_instruction_24 ms_X11_122 (IN2) rfl rfl (Nat.le_of_ble_eq_true rfl) ?_
      refine PW.if_eq (pc := 27) (tgt := 39) dX11_instruction_27 (by decide) (rg_bi _) (fun c_27 => ?_) (fun c_27 => ?_)
      · exact absurd c_27 (by rw [bi_pos (by omega)]; omega)
      · refine PW.aload_n (pc := 30) dX11_instruction_30 rfl ?_
        refine PW.iload_n (pc := 31) dX11_instruction_31 rfl ?_
        refine PW.iload_n (pc := 32) dX11_instruction_32 rfl ?_
        refine PW.invV0x (pc := 33) dX11_instruction_33 mv_X11_189 (c_X11_its _ M (by omega) (by omega)) M.g112 rfl rfl (Nat.le_of_ble_eq_true rfl) ?_
        rw [ef]
        refine PW.goto (pc := 36) (tgt := 40) dX11_instruction_36 (by decide) ?_
        exact PW.ireturn (pc := 40) dX11_instruction_40 rfl (MPo.of z1 h1)
  · rw [if_neg q]
    refine PW.aload_n (pc := 0) dX11_instruction_0 rfl ?_
    refine PW.iconst (pc := 1) dX11_instruction_1 ?_
    refine PW.puti (pc := 2) dX11_instruction_2 fl_X11_104 M.g112 ?_
    rw [hI1]
    refine PW.iload_n (pc := 5) dX11_instruction_5 rfl ?_
    refine PW.iconst (pc := 6) dX11_instruction_6 ?_
    refine PW.aload_n (pc := 7) dX11_instruction_7 rfl ?_
    refine PW.getr (pc := 8) dX11_instruction_8 fl_X11_20 M.g112 M.r5 ?_
    refine PW.iconst (pc := 11) dX11_instruction_11 ?_
    refine PW.iald (pc := 12) dX11_instruction_12 M.g116 (by omega) (by omega) (by omega) ?_
    rw [n1]
    refine PW.iconst (pc := 13) dX11_instruction_13 ?_
    refine PW.isub (pc := 14) dX11_instruction_14 ?_
    refine PW.invS0x (pc := 15) dX11_instruction_15 ms_X11_122 (IN1) rfl rfl (Nat.le_of_ble_eq_true rfl) ?_
    refine PW.if_eq (pc := 18) (tgt := 39) dX11_instruction_18 (by decide) (rg_bi _) (fun c_18 => ?_) (fun c_18 => ?_)
    · refine PW.iconst (pc := 39) dX11_instruction_39 ?_
      exact PW.ireturn (pc := 40) dX11_instruction_40 rfl (MPo.of z1 h1)
    · refine PW.iload_n (pc := 21) dX11_instruction_21 rfl ?_
      refine PW.iconst (pc := 22) dX11_instruction_22 ?_
      refine PW.iconst (pc := 23) dX11_instruction_23 ?_
      refine PW.invS0x (pc := 24) dX11_instruction_24 ms_X11_122 (IN2) rfl rfl (Nat.le_of_ble_eq_true rfl) ?_
      refine PW.if_eq (pc := 27) (tgt := 39) dX11_instruction_27 (by decide) (rg_bi _) (fun c_27 => ?_) (fun c_27 => ?_)
      · refine PW.iconst (pc := 39) dX11_instruction_39 ?_
        exact PW.ireturn (pc := 40) dX11_instruction_40 rfl (MPo.of z1 h1)
      · exact absurd (And.intro (bi1 c_18) (bi1 c_27)) (fun o => q ⟨⟨o.1.1, by omega⟩, o.2⟩)
set_option maxRecDepth 100000 in
set_option maxHeartbeats 1000000 in
theorem MVal.c137 {s : CS} {I I' : PIm} (h : MVal s I) (y : ∀ q, q ≠ 137 → I' q = I q) : MVal s I' := h.cg (fun k _ => by rw [y 112 (by omega)]) (fun q g => y q (by omega)) (fun q a b k _ _ => by rw [y q (by omega)])
set_option maxRecDepth 100000 in
set_option maxHeartbeats 1000000 in
theorem q_fact (d : Nat) {I : PIm} {s : CS} {k : Int} (M : MAt Γ R) (h : MVal s I) (hk : Rg k) : PC sc mX11_fact (d + 3) 0 0 [.inr (some 112), .inl k] Γ I R (MPo Γ I R (sp_fact s k) s) := by
  have h1 := h.thr
  have z1 : ∀ q, q < 112 → pw_up I 112 0 0 q = I q := fun q g => pw_up_ne q (by omega)
  generalize hI1 : pw_up I 112 0 0 = I1 at h1 z1
  obtain ⟨vT, ⟨tb, vF⟩, ⟨vN, vNo⟩, vH, vI, vS⟩ := id h1
  obtain ⟨n1, n2, n25, n26, n27, n28⟩ := id vN
  obtain ⟨vNok, vNoF⟩ := id vNo
  have PM := vN.prog vNok
  have o1 : vn (cNow s) ≤ 6 := vNok.1
  have o3 : 0 ≤ vl (cNow s) ∧ vl (cNow s) ≤ 3 := vNok.2.2.1
  have o4 : 0 ≤ vf (cNow s) ∧ vf (cNow s) ≤ 7 := vNok.2.2.2.1
  have o5 : 0 ≤ vw (cNow s) ∧ vw (cNow s) ≤ 1 := vNok.2.2.2.2.1
  have o6 : 0 ≤ vi (cNow s) ∧ vi (cNow s) < 64 := vNok.2.2.2.2.2
  unfold sp_fact
  obtain ⟨⟨f1, f2, f3⟩, fT, f104, fU⟩ := id vF
  have f4 := fT.1
  have IN1 := c_X11_in (sc := sc) (Γ := Γ) (R := R) (I := I1) (d + 2) (v := k) (a := 0) (b := ((cF s).1 : Int) - 1) hk (by omega) (by omega)
  refine PC.ofPW (by decide) (Nat.le_of_ble_eq_true rfl) ?_
  by_cases q : 0 ≤ k ∧ k < ((cF s).1 : Int)
  · rw [if_pos q]
    obtain ⟨-, ⟨q1, q2, q3⟩, q4, q5, q6⟩ := f3 k q.1 q.2
    have x13 : pw_up I1 112 13 (I1 112 14) 112 13 = I1 112 14 := pw_up_self _ _ _ _
    have y0 : ∀ q, q ≠ 112 → pw_up I1 112 13 (I1 112 14) q = I1 q := fun q g => pw_up_ne q g
    have y1 : ∀ z, z ≠ 13 → pw_up I1 112 13 (I1 112 14) 112 z = I1 112 z := fun z g => pw_up_other (by omega)
    have V2 : MVal s (pw_up I1 112 13 (I1 112 14)) := h1.cg (fun k hk => y1 k (by omega)) (fun q g => y0 q (by omega)) (fun q a b k _ _ => by rw [y0 q (by omega)])
    generalize hI2 : pw_up I1 112 13 (I1 112 14) = I2 at x13 y0 y1 V2
    obtain ⟨zn, hzn⟩ : ∃ z : Nat, I1 112 14 = z := ⟨(I1 112 14).toNat, by omega⟩
    have eU : UT tb (I1 112 14) = UF (cF s) := funext fun u => propext (fU u)
    have T2 : MTab I2 zn tb := by rw [hzn] at fT; exact fT.cg (fun q a b k _ _ => by rw [y0 q (by omega)])
    have F2 : MFcts I2 (cF s) tb zn := vF.1.cg (y1 1 (by omega)) (fun q a b => y0 q (by omega)) (by omega) (fun _ _ _ => rfl)
    rw [← q3, ← q6, ← eU, hzn]
    refine PW.aload_n (pc := 0) dX11_fact_0 rfl ?_
    refine PW.iconst (pc := 1) dX11_fact_1 ?_
    refine PW.puti (pc := 2) dX11_fact_2 fl_X11_104 M.g112 ?_
    rw [hI1]
    refine PW.iload_n (pc := 5) dX11_fact_5 rfl ?_
    refine PW.iconst (pc := 6) dX11_fact_6 ?_
    refine PW.aload_n (pc := 7) dX11_fact_7 rfl ?_
    refine PW.geti (pc := 8) dX11_fact_8 fl_X11_162 (by decide) M.g112 ?_
    rw [f1]
    refine PW.iconst (pc := 11) dX11_fact_11 ?_
    refine PW.isub (pc := 12) dX11_fact_12 ?_
    refine PW.invS0x (pc := 13) dX11_fact_13 ms_X11_122 (IN1) rfl rfl (Nat.le_of_ble_eq_true rfl) ?_
    refine PW.if_ne (pc := 16) (tgt := 21) dX11_fact_16 (by decide) (rg_bi _) (fun c_16 => ?_) (fun c_16 => ?_)
    · refine PW.aload_n (pc := 21) dX11_fact_21 rfl ?_
      refine PW.aload_n (pc := 22) dX11_fact_22 rfl ?_
      refine PW.geti (pc := 23) dX11_fact_23 fl_X11_119 (by decide) M.g112 ?_
      refine PW.puti (pc := 26) dX11_fact_26 fl_X11_112 M.g112 ?_
      rw [hI2]
      refine PW.aload_n (pc := 29) dX11_fact_29 rfl ?_
      refine PW.aload_n (pc := 30) dX11_fact_30 rfl ?_
      refine PW.getr (pc := 31) dX11_fact_31 fl_X11_20 M.g112 M.r5 ?_
      refine PW.bipush (pc := 34) dX11_fact_34 (by decide) ?_
      refine PW.iald (pc := 36) dX11_fact_36 M.g116 (by omega) (by omega) (by omega) ?_
      rw [y0 116 (by omega), n25]
      refine PW.aload_n (pc := 37) dX11_fact_37 rfl ?_
      refine PW.getr (pc := 38) dX11_fact_38 fl_X11_13 M.g112 M.r3 ?_
      refine PW.iload_n (pc := 41) dX11_fact_41 rfl ?_
      refine PW.iald (pc := 42) dX11_fact_42 M.g114 (by omega) (by omega) (by omega) ?_
      rw [y0 114 (by omega)]
      refine PW.aload_n (pc := 43) dX11_fact_43 rfl ?_
      refine PW.getr (pc := 44) dX11_fact_44 fl_X11_17 M.g112 M.r4 ?_
      refine PW.iload_n (pc := 47) dX11_fact_47 rfl ?_
      refine PW.iald (pc := 48) dX11_fact_48 M.g115 (by omega) (by omega) (by omega) ?_
      rw [y0 115 (by omega)]
      refine PW.invV0 (pc := 49) dX11_fact_49 mv_X11_223 (c_X11_equalOf _ M (by omega) (by omega) T2 F2 (by omega) (by omega)) M.g112 rfl rfl (Nat.le_of_ble_eq_true rfl) ?_
      (rintro v Γ' I3 R' ⟨rfl, rfl, rfl, y3⟩)
      exact PW.ireturn (pc := 52) dX11_fact_52 rfl (MPo.of (fun q g => by rw [y3 q (by omega), y0 q (by omega), z1 q g]) (V2.c137 y3))
    · exact absurd c_16 (by rw [bi_pos (by omega)]; omega)
  · rw [if_neg q]
    refine PW.aload_n (pc := 0) dX11_fact_0 rfl ?_
    refine PW.iconst (pc := 1) dX11_fact_1 ?_
    refine PW.puti (pc := 2) dX11_fact_2 fl_X11_104 M.g112 ?_
    rw [hI1]
    refine PW.iload_n (pc := 5) dX11_fact_5 rfl ?_
    refine PW.iconst (pc := 6) dX11_fact_6 ?_
    refine PW.aload_n (pc := 7) dX11_fact_7 rfl ?_
    refine PW.geti (pc := 8) dX11_fact_8 fl_X11_162 (by decide) M.g112 ?_
    rw [f1]
    refine PW.iconst (pc := 11) dX11_fact_11 ?_
    refine PW.isub (pc := 12) dX11_fact_12 ?_
    refine PW.invS0x (pc := 13) dX11_fact_13 ms_X11_122 (IN1) rfl rfl (Nat.le_of_ble_eq_true rfl) ?_
    refine PW.if_ne (pc := 16) (tgt := 21) dX11_fact_16 (by decide) (rg_bi _) (fun c_16 => ?_) (fun c_16 => ?_)
    · exact absurd (bi1 c_16) (by omega)
    · refine PW.iconst (pc := 19) dX11_fact_19 ?_
      exact PW.ireturn (pc := 20) dX11_fact_20 rfl (MPo.of z1 h1)
set_option maxRecDepth 100000 in
set_option maxHeartbeats 1000000 in
theorem q_ruled (d : Nat) {I : PIm} {s : CS} (M : MAt Γ R) (h : MVal s I) : PC sc mX11_ruled (d + 2) 0 0 [.inr (some 112)] Γ I R (MPo Γ I R (sp_ruled s) s) := by
  have h1 := h.thr
  have z1 : ∀ q, q < 112 → pw_up I 112 0 0 q = I q := fun q g => pw_up_ne q (by omega)
  generalize hI1 : pw_up I 112 0 0 = I1 at h1 z1
  obtain ⟨vT, ⟨tb, vF⟩, ⟨vN, vNo⟩, vH, vI, vS⟩ := id h1
  obtain ⟨n1, n2, n25, n26, n27, n28⟩ := id vN
  obtain ⟨vNok, vNoF⟩ := id vNo
  have PM := vN.prog vNok
  have o1 : vn (cNow s) ≤ 6 := vNok.1
  have o3 : 0 ≤ vl (cNow s) ∧ vl (cNow s) ≤ 3 := vNok.2.2.1
  have o4 : 0 ≤ vf (cNow s) ∧ vf (cNow s) ≤ 7 := vNok.2.2.2.1
  have o5 : 0 ≤ vw (cNow s) ∧ vw (cNow s) ≤ 1 := vNok.2.2.2.2.1
  have o6 : 0 ≤ vi (cNow s) ∧ vi (cNow s) < 64 := vNok.2.2.2.2.2
  unfold sp_ruled
  obtain ⟨⟨f1, f2, f3⟩, fT, f104, fU⟩ := id vF
  have f4 := fT.1
  refine PC.ofPW (by decide) (Nat.le_of_ble_eq_true rfl) ?_
  have x13 : pw_up I1 112 13 (I1 112 14) 112 13 = I1 112 14 := pw_up_self _ _ _ _
  have y0 : ∀ q, q ≠ 112 → pw_up I1 112 13 (I1 112 14) q = I1 q := fun q g => pw_up_ne q g
  have y1 : ∀ z, z ≠ 13 → pw_up I1 112 13 (I1 112 14) 112 z = I1 112 z := fun z g => pw_up_other (by omega)
  have V2 : MVal s (pw_up I1 112 13 (I1 112 14)) := h1.cg (fun k hk => y1 k (by omega)) (fun q g => y0 q (by omega)) (fun q a b k _ _ => by rw [y0 q (by omega)])
  generalize hI2 : pw_up I1 112 13 (I1 112 14) = I2 at x13 y0 y1 V2
  obtain ⟨zn, hzn⟩ : ∃ z : Nat, I1 112 14 = z := ⟨(I1 112 14).toNat, by omega⟩
  have eU : UT tb (I1 112 14) = UF (cF s) := funext fun u => propext (fU u)
  have T2 : MTab I2 zn tb := by rw [hzn] at fT; exact fT.cg (fun q a b k _ _ => by rw [y0 q (by omega)])
  have F2 : MFcts I2 (cF s) tb zn := vF.1.cg (y1 1 (by omega)) (fun q a b => y0 q (by omega)) (by omega) (fun _ _ _ => rfl)
  rw [← eU, hzn]
  refine PW.aload_n (pc := 0) dX11_ruled_0 rfl ?_
  refine PW.iconst (pc := 1) dX11_ruled_1 ?_
  refine PW.puti (pc := 2) dX11_ruled_2 fl_X11_104 M.g112 ?_
  rw [hI1]
  refine PW.aload_n (pc := 5) dX11_ruled_5 rfl ?_
  refine PW.aload_n (pc := 6) dX11_ruled_6 rfl ?_
  refine PW.geti (pc := 7) dX11_ruled_7 fl_X11_119 (by decide) M.g112 ?_
  refine PW.puti (pc := 10) dX11_ruled_10 fl_X11_112 M.g112 ?_
  rw [hI2]
  refine PW.aload_n (pc := 13) dX11_ruled_13 rfl ?_
  refine PW.aload_n (pc := 14) dX11_ruled_14 rfl ?_
  refine PW.getr (pc := 15) dX11_ruled_15 fl_X11_20 M.g112 M.r5 ?_
  refine PW.bipush (pc := 18) dX11_ruled_18 (by decide) ?_
  refine PW.iald (pc := 20) dX11_ruled_20 M.g116 (by omega) (by omega) (by omega) ?_
  rw [y0 116 (by omega), n25]
  refine PW.iconst (pc := 21) dX11_ruled_21 ?_
  refine PW.iconst (pc := 22) dX11_ruled_22 ?_
  refine PW.invV0 (pc := 23) dX11_ruled_23 mv_X11_182 (c_X11_laysSame _ M (by omega) (by omega) T2 F2 (by omega) (by omega)) M.g112 rfl rfl (Nat.le_of_ble_eq_true rfl) ?_
  (rintro v Γ' I3 R' ⟨rfl, rfl, rfl, y3, k3⟩; replace k3 := k3.self)
  have F3 : MFcts I3 (cF s) tb zn := F2.cg (by rw [y3 112 (by omega)]) (fun q a b => y3 q (by omega)) (Int.le_refl _) (fun _ _ _ => rfl)
  have P : ∀ a, MPo Γ' I R' a s (some (.inl a)) Γ' I3 R' := fun a => MPo.of (fun q g => by rw [y3 q (by omega), y0 q (by omega), z1 q g]) (V2.c137 y3)
  refine PW.aload_n (pc := 26) dX11_ruled_26 rfl ?_
  refine PW.aload_n (pc := 27) dX11_ruled_27 rfl ?_
  refine PW.getr (pc := 28) dX11_ruled_28 fl_X11_20 M.g112 M.r5 ?_
  refine PW.bipush (pc := 31) dX11_ruled_31 (by decide) ?_
  refine PW.iald (pc := 33) dX11_ruled_33 M.g116 (by omega) (by omega) (by omega) ?_
  rw [y3 116 (by omega), y0 116 (by omega), n25]
  refine PW.invV0x (pc := 34) dX11_ruled_34 mv_X11_186 (c_X11_isRuledOut _ M (by omega) F3 k3) M.g112 rfl rfl (Nat.le_of_ble_eq_true rfl) ?_
  refine PW.if_eq (pc := 37) (tgt := 44) dX11_ruled_37 (by decide) (rg_cb _) (fun c_37 => ?_) (fun c_37 => ?_)
  · refine PW.iconst (pc := 44) dX11_ruled_44 ?_
    exact PW.ireturn (pc := 45) dX11_ruled_45 rfl (by
    first
    | (rw [cb_pos (cb1 c_37)]; exact P 1)
    | (rw [cb_neg (cb0 c_37)]; exact P 0))
  · refine PW.iconst (pc := 40) dX11_ruled_40 ?_
    refine PW.goto (pc := 41) (tgt := 45) dX11_ruled_41 (by decide) ?_
    exact PW.ireturn (pc := 45) dX11_ruled_45 rfl (by
    first
    | (rw [cb_pos (cb1 c_37)]; exact P 1)
    | (rw [cb_neg (cb0 c_37)]; exact P 0))
set_option maxRecDepth 100000 in
set_option maxHeartbeats 1000000 in
theorem c_X11_isRegister (d : Nat) {I : PIm} {r : Int} (hr : Rg r) : PC sc mX11_isRegister (d + 1) 0 0 [.inl r] Γ I R (px (some (.inl (bi (0 ≤ r ∧ r ≤ 3)))) Γ I R) := by
  refine PC.ofPW (by decide) (Nat.le_of_ble_eq_true rfl) ?_
  refine PW.iload_n (pc := 0) dX11_isRegister_0 rfl ?_
  refine PW.iconst (pc := 1) dX11_isRegister_1 ?_
  refine PW.iconst (pc := 2) dX11_isRegister_2 ?_
  refine PW.invS0x (pc := 3) dX11_isRegister_3 ms_X11_122 (c_X11_in _ hr (by omega) (by omega)) rfl rfl (Nat.le_of_ble_eq_true rfl) ?_
  exact PW.zreturn (pc := 6) dX11_isRegister_6 rfl (bi_01 _) (px_rfl)
end MPUBA
