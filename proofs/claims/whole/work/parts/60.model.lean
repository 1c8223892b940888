section MODEL
variable {sc : PSc} {Γ : List PTy} {R : PRm}
/-! THE REFERENCE: place 112 and its rows behind it -/
def iaAt (Γ : List PTy) (R : PRm) (k : Int) (p kd n : Nat) : Prop := R 112 k = some p ∧ Γ[p]? = some (.inr (kd, n))
def MAt (Γ : List PTy) (R : PRm) : Prop := Γ[112]? = some (.inl 11) ∧ iaAt Γ R 2 113 1 6 ∧ iaAt Γ R 3 114 0 6 ∧ iaAt Γ R 4 115 0 6 ∧ iaAt Γ R 5 116 0 29 ∧ iaAt Γ R 6 117 0 290 ∧ iaAt Γ R 8 118 0 58 ∧ iaAt Γ R 9 119 1 2 ∧ iaAt Γ R 11 120 0 4 ∧ iaAt Γ R 12 121 0 116 ∧ iaAt Γ R 15 122 0 200 ∧ iaAt Γ R 16 123 0 200 ∧ iaAt Γ R 17 124 0 200 ∧ iaAt Γ R 18 125 0 40 ∧ iaAt Γ R 19 126 0 40 ∧ iaAt Γ R 21 127 0 100 ∧ iaAt Γ R 26 128 1 6 ∧ iaAt Γ R 27 129 0 6 ∧ iaAt Γ R 28 130 0 6 ∧ iaAt Γ R 30 131 0 24 ∧ iaAt Γ R 31 132 0 6 ∧ iaAt Γ R 32 133 0 6 ∧ iaAt Γ R 33 134 0 200 ∧ iaAt Γ R 34 135 0 200 ∧ iaAt Γ R 35 136 0 200 ∧ iaAt Γ R 36 137 0 200 ∧ iaAt Γ R 37 138 0 6 ∧ iaAt Γ R 38 139 0 6 ∧ iaAt Γ R 39 140 0 8 ∧ iaAt Γ R 40 141 0 29
set_option maxRecDepth 100000 in
set_option maxHeartbeats 1000000 in
theorem MAt.g112 (M : MAt Γ R) : Γ[112]? = some (.inl 11) := M.1
set_option maxRecDepth 100000 in
set_option maxHeartbeats 1000000 in
theorem MAt.r2 (M : MAt Γ R) : R 112 2 = some 113 := (M.2.1).1
set_option maxRecDepth 100000 in
set_option maxHeartbeats 1000000 in
theorem MAt.g113 (M : MAt Γ R) : Γ[113]? = some (.inr (1, 6)) := (M.2.1).2
set_option maxRecDepth 100000 in
set_option maxHeartbeats 1000000 in
theorem MAt.r3 (M : MAt Γ R) : R 112 3 = some 114 := (M.2.2.1).1
set_option maxRecDepth 100000 in
set_option maxHeartbeats 1000000 in
theorem MAt.g114 (M : MAt Γ R) : Γ[114]? = some (.inr (0, 6)) := (M.2.2.1).2
set_option maxRecDepth 100000 in
set_option maxHeartbeats 1000000 in
theorem MAt.r4 (M : MAt Γ R) : R 112 4 = some 115 := (M.2.2.2.1).1
set_option maxRecDepth 100000 in
set_option maxHeartbeats 1000000 in
theorem MAt.g115 (M : MAt Γ R) : Γ[115]? = some (.inr (0, 6)) := (M.2.2.2.1).2
set_option maxRecDepth 100000 in
set_option maxHeartbeats 1000000 in
theorem MAt.r5 (M : MAt Γ R) : R 112 5 = some 116 := (M.2.2.2.2.1).1
set_option maxRecDepth 100000 in
set_option maxHeartbeats 1000000 in
theorem MAt.g116 (M : MAt Γ R) : Γ[116]? = some (.inr (0, 29)) := (M.2.2.2.2.1).2
set_option maxRecDepth 100000 in
set_option maxHeartbeats 1000000 in
theorem MAt.r6 (M : MAt Γ R) : R 112 6 = some 117 := (M.2.2.2.2.2.1).1
set_option maxRecDepth 100000 in
set_option maxHeartbeats 1000000 in
theorem MAt.g117 (M : MAt Γ R) : Γ[117]? = some (.inr (0, 290)) := (M.2.2.2.2.2.1).2
set_option maxRecDepth 100000 in
set_option maxHeartbeats 1000000 in
theorem MAt.r8 (M : MAt Γ R) : R 112 8 = some 118 := (M.2.2.2.2.2.2.1).1
set_option maxRecDepth 100000 in
set_option maxHeartbeats 1000000 in
theorem MAt.g118 (M : MAt Γ R) : Γ[118]? = some (.inr (0, 58)) := (M.2.2.2.2.2.2.1).2
set_option maxRecDepth 100000 in
set_option maxHeartbeats 1000000 in
theorem MAt.r9 (M : MAt Γ R) : R 112 9 = some 119 := (M.2.2.2.2.2.2.2.1).1
set_option maxRecDepth 100000 in
set_option maxHeartbeats 1000000 in
theorem MAt.g119 (M : MAt Γ R) : Γ[119]? = some (.inr (1, 2)) := (M.2.2.2.2.2.2.2.1).2
set_option maxRecDepth 100000 in
set_option maxHeartbeats 1000000 in
theorem MAt.r11 (M : MAt Γ R) : R 112 11 = some 120 := (M.2.2.2.2.2.2.2.2.1).1
set_option maxRecDepth 100000 in
set_option maxHeartbeats 1000000 in
theorem MAt.g120 (M : MAt Γ R) : Γ[120]? = some (.inr (0, 4)) := (M.2.2.2.2.2.2.2.2.1).2
set_option maxRecDepth 100000 in
set_option maxHeartbeats 1000000 in
theorem MAt.r12 (M : MAt Γ R) : R 112 12 = some 121 := (M.2.2.2.2.2.2.2.2.2.1).1
set_option maxRecDepth 100000 in
set_option maxHeartbeats 1000000 in
theorem MAt.g121 (M : MAt Γ R) : Γ[121]? = some (.inr (0, 116)) := (M.2.2.2.2.2.2.2.2.2.1).2
set_option maxRecDepth 100000 in
set_option maxHeartbeats 1000000 in
theorem MAt.r15 (M : MAt Γ R) : R 112 15 = some 122 := (M.2.2.2.2.2.2.2.2.2.2.1).1
set_option maxRecDepth 100000 in
set_option maxHeartbeats 1000000 in
theorem MAt.g122 (M : MAt Γ R) : Γ[122]? = some (.inr (0, 200)) := (M.2.2.2.2.2.2.2.2.2.2.1).2
set_option maxRecDepth 100000 in
set_option maxHeartbeats 1000000 in
theorem MAt.r16 (M : MAt Γ R) : R 112 16 = some 123 := (M.2.2.2.2.2.2.2.2.2.2.2.1).1
set_option maxRecDepth 100000 in
set_option maxHeartbeats 1000000 in
theorem MAt.g123 (M : MAt Γ R) : Γ[123]? = some (.inr (0, 200)) := (M.2.2.2.2.2.2.2.2.2.2.2.1).2
set_option maxRecDepth 100000 in
set_option maxHeartbeats 1000000 in
theorem MAt.r17 (M : MAt Γ R) : R 112 17 = some 124 := (M.2.2.2.2.2.2.2.2.2.2.2.2.1).1
set_option maxRecDepth 100000 in
set_option maxHeartbeats 1000000 in
theorem MAt.g124 (M : MAt Γ R) : Γ[124]? = some (.inr (0, 200)) := (M.2.2.2.2.2.2.2.2.2.2.2.2.1).2
set_option maxRecDepth 100000 in
set_option maxHeartbeats 1000000 in
theorem MAt.r18 (M : MAt Γ R) : R 112 18 = some 125 := (M.2.2.2.2.2.2.2.2.2.2.2.2.2.1).1
set_option maxRecDepth 100000 in
set_option maxHeartbeats 1000000 in
theorem MAt.g125 (M : MAt Γ R) : Γ[125]? = some (.inr (0, 40)) := (M.2.2.2.2.2.2.2.2.2.2.2.2.2.1).2
set_option maxRecDepth 100000 in
set_option maxHeartbeats 1000000 in
theorem MAt.r19 (M : MAt Γ R) : R 112 19 = some 126 := (M.2.2.2.2.2.2.2.2.2.2.2.2.2.2.1).1
set_option maxRecDepth 100000 in
set_option maxHeartbeats 1000000 in
theorem MAt.g126 (M : MAt Γ R) : Γ[126]? = some (.inr (0, 40)) := (M.2.2.2.2.2.2.2.2.2.2.2.2.2.2.1).2
set_option maxRecDepth 100000 in
set_option maxHeartbeats 1000000 in
theorem MAt.r21 (M : MAt Γ R) : R 112 21 = some 127 := (M.2.2.2.2.2.2.2.2.2.2.2.2.2.2.2.1).1
set_option maxRecDepth 100000 in
set_option maxHeartbeats 1000000 in
theorem MAt.g127 (M : MAt Γ R) : Γ[127]? = some (.inr (0, 100)) := (M.2.2.2.2.2.2.2.2.2.2.2.2.2.2.2.1).2
set_option maxRecDepth 100000 in
set_option maxHeartbeats 1000000 in
theorem MAt.r26 (M : MAt Γ R) : R 112 26 = some 128 := (M.2.2.2.2.2.2.2.2.2.2.2.2.2.2.2.2.1).1
set_option maxRecDepth 100000 in
set_option maxHeartbeats 1000000 in
theorem MAt.g128 (M : MAt Γ R) : Γ[128]? = some (.inr (1, 6)) := (M.2.2.2.2.2.2.2.2.2.2.2.2.2.2.2.2.1).2
set_option maxRecDepth 100000 in
set_option maxHeartbeats 1000000 in
theorem MAt.r27 (M : MAt Γ R) : R 112 27 = some 129 := (M.2.2.2.2.2.2.2.2.2.2.2.2.2.2.2.2.2.1).1
set_option maxRecDepth 100000 in
set_option maxHeartbeats 1000000 in
theorem MAt.g129 (M : MAt Γ R) : Γ[129]? = some (.inr (0, 6)) := (M.2.2.2.2.2.2.2.2.2.2.2.2.2.2.2.2.2.1).2
set_option maxRecDepth 100000 in
set_option maxHeartbeats 1000000 in
theorem MAt.r28 (M : MAt Γ R) : R 112 28 = some 130 := (M.2.2.2.2.2.2.2.2.2.2.2.2.2.2.2.2.2.2.1).1
set_option maxRecDepth 100000 in
set_option maxHeartbeats 1000000 in
theorem MAt.g130 (M : MAt Γ R) : Γ[130]? = some (.inr (0, 6)) := (M.2.2.2.2.2.2.2.2.2.2.2.2.2.2.2.2.2.2.1).2
set_option maxRecDepth 100000 in
set_option maxHeartbeats 1000000 in
theorem MAt.r30 (M : MAt Γ R) : R 112 30 = some 131 := (M.2.2.2.2.2.2.2.2.2.2.2.2.2.2.2.2.2.2.2.1).1
set_option maxRecDepth 100000 in
set_option maxHeartbeats 1000000 in
theorem MAt.g131 (M : MAt Γ R) : Γ[131]? = some (.inr (0, 24)) := (M.2.2.2.2.2.2.2.2.2.2.2.2.2.2.2.2.2.2.2.1).2
set_option maxRecDepth 100000 in
set_option maxHeartbeats 1000000 in
theorem MAt.r31 (M : MAt Γ R) : R 112 31 = some 132 := (M.2.2.2.2.2.2.2.2.2.2.2.2.2.2.2.2.2.2.2.2.1).1
set_option maxRecDepth 100000 in
set_option maxHeartbeats 1000000 in
theorem MAt.g132 (M : MAt Γ R) : Γ[132]? = some (.inr (0, 6)) := (M.2.2.2.2.2.2.2.2.2.2.2.2.2.2.2.2.2.2.2.2.1).2
set_option maxRecDepth 100000 in
set_option maxHeartbeats 1000000 in
theorem MAt.r32 (M : MAt Γ R) : R 112 32 = some 133 := (M.2.2.2.2.2.2.2.2.2.2.2.2.2.2.2.2.2.2.2.2.2.1).1
set_option maxRecDepth 100000 in
set_option maxHeartbeats 1000000 in
theorem MAt.g133 (M : MAt Γ R) : Γ[133]? = some (.inr (0, 6)) := (M.2.2.2.2.2.2.2.2.2.2.2.2.2.2.2.2.2.2.2.2.2.1).2
set_option maxRecDepth 100000 in
set_option maxHeartbeats 1000000 in
theorem MAt.r33 (M : MAt Γ R) : R 112 33 = some 134 := (M.2.2.2.2.2.2.2.2.2.2.2.2.2.2.2.2.2.2.2.2.2.2.1).1
set_option maxRecDepth 100000 in
set_option maxHeartbeats 1000000 in
theorem MAt.g134 (M : MAt Γ R) : Γ[134]? = some (.inr (0, 200)) := (M.2.2.2.2.2.2.2.2.2.2.2.2.2.2.2.2.2.2.2.2.2.2.1).2
set_option maxRecDepth 100000 in
set_option maxHeartbeats 1000000 in
theorem MAt.r34 (M : MAt Γ R) : R 112 34 = some 135 := (M.2.2.2.2.2.2.2.2.2.2.2.2.2.2.2.2.2.2.2.2.2.2.2.1).1
set_option maxRecDepth 100000 in
set_option maxHeartbeats 1000000 in
theorem MAt.g135 (M : MAt Γ R) : Γ[135]? = some (.inr (0, 200)) := (M.2.2.2.2.2.2.2.2.2.2.2.2.2.2.2.2.2.2.2.2.2.2.2.1).2
set_option maxRecDepth 100000 in
set_option maxHeartbeats 1000000 in
theorem MAt.r35 (M : MAt Γ R) : R 112 35 = some 136 := (M.2.2.2.2.2.2.2.2.2.2.2.2.2.2.2.2.2.2.2.2.2.2.2.2.1).1
set_option maxRecDepth 100000 in
set_option maxHeartbeats 1000000 in
theorem MAt.g136 (M : MAt Γ R) : Γ[136]? = some (.inr (0, 200)) := (M.2.2.2.2.2.2.2.2.2.2.2.2.2.2.2.2.2.2.2.2.2.2.2.2.1).2
set_option maxRecDepth 100000 in
set_option maxHeartbeats 1000000 in
theorem MAt.r36 (M : MAt Γ R) : R 112 36 = some 137 := (M.2.2.2.2.2.2.2.2.2.2.2.2.2.2.2.2.2.2.2.2.2.2.2.2.2.1).1
set_option maxRecDepth 100000 in
set_option maxHeartbeats 1000000 in
theorem MAt.g137 (M : MAt Γ R) : Γ[137]? = some (.inr (0, 200)) := (M.2.2.2.2.2.2.2.2.2.2.2.2.2.2.2.2.2.2.2.2.2.2.2.2.2.1).2
set_option maxRecDepth 100000 in
set_option maxHeartbeats 1000000 in
theorem MAt.r37 (M : MAt Γ R) : R 112 37 = some 138 := (M.2.2.2.2.2.2.2.2.2.2.2.2.2.2.2.2.2.2.2.2.2.2.2.2.2.2.1).1
set_option maxRecDepth 100000 in
set_option maxHeartbeats 1000000 in
theorem MAt.g138 (M : MAt Γ R) : Γ[138]? = some (.inr (0, 6)) := (M.2.2.2.2.2.2.2.2.2.2.2.2.2.2.2.2.2.2.2.2.2.2.2.2.2.2.1).2
set_option maxRecDepth 100000 in
set_option maxHeartbeats 1000000 in
theorem MAt.r38 (M : MAt Γ R) : R 112 38 = some 139 := (M.2.2.2.2.2.2.2.2.2.2.2.2.2.2.2.2.2.2.2.2.2.2.2.2.2.2.2.1).1
set_option maxRecDepth 100000 in
set_option maxHeartbeats 1000000 in
theorem MAt.g139 (M : MAt Γ R) : Γ[139]? = some (.inr (0, 6)) := (M.2.2.2.2.2.2.2.2.2.2.2.2.2.2.2.2.2.2.2.2.2.2.2.2.2.2.2.1).2
set_option maxRecDepth 100000 in
set_option maxHeartbeats 1000000 in
theorem MAt.r39 (M : MAt Γ R) : R 112 39 = some 140 := (M.2.2.2.2.2.2.2.2.2.2.2.2.2.2.2.2.2.2.2.2.2.2.2.2.2.2.2.2.1).1
set_option maxRecDepth 100000 in
set_option maxHeartbeats 1000000 in
theorem MAt.g140 (M : MAt Γ R) : Γ[140]? = some (.inr (0, 8)) := (M.2.2.2.2.2.2.2.2.2.2.2.2.2.2.2.2.2.2.2.2.2.2.2.2.2.2.2.2.1).2
set_option maxRecDepth 100000 in
set_option maxHeartbeats 1000000 in
theorem MAt.r40 (M : MAt Γ R) : R 112 40 = some 141 := (M.2.2.2.2.2.2.2.2.2.2.2.2.2.2.2.2.2.2.2.2.2.2.2.2.2.2.2.2.2).1
set_option maxRecDepth 100000 in
set_option maxHeartbeats 1000000 in
theorem MAt.g141 (M : MAt Γ R) : Γ[141]? = some (.inr (0, 29)) := (M.2.2.2.2.2.2.2.2.2.2.2.2.2.2.2.2.2.2.2.2.2.2.2.2.2.2.2.2.2).2
set_option maxRecDepth 100000 in
set_option maxHeartbeats 1000000 in
theorem c_X11_in (d : Nat) {I : PIm} {v a b : Int} (hv : Rg v) (ha : Rg a) (hb : Rg b) : PC sc mX11_in d 0 0 [.inl v, .inl a, .inl b] Γ I R (px (some (.inl (bi (a ≤ v ∧ v ≤ b)))) Γ I R) := by
  refine PC.ofPW (by decide) (Nat.le_of_ble_eq_true rfl) ?_
  refine PW.iload_n (pc := 0) dX11_in_0 rfl ?_
  refine PW.iload_n (pc := 1) dX11_in_1 rfl ?_
  refine PW.icmp_lt (pc := 2) (tgt := 14) dX11_in_2 (by decide) (by first | omega | exact rg_of _) (by first | omega | exact rg_of _) (fun c_2 => ?_) (fun c_2 => ?_)
  · refine PW.iconst (pc := 14) dX11_in_14 ?_
    exact PW.zreturn (pc := 15) dX11_in_15 rfl (by first | exact Or.inl rfl | exact Or.inr rfl | omega) (by first | exact pxb_pos (by omega) | exact pxb_neg (by omega))
  · refine PW.iload_n (pc := 5) dX11_in_5 rfl ?_
    refine PW.iload_n (pc := 6) dX11_in_6 rfl ?_
    refine PW.icmp_gt (pc := 7) (tgt := 14) dX11_in_7 (by decide) (by first | omega | exact rg_of _) (by first | omega | exact rg_of _) (fun c_7 => ?_) (fun c_7 => ?_)
    · refine PW.iconst (pc := 14) dX11_in_14 ?_
      exact PW.zreturn (pc := 15) dX11_in_15 rfl (by first | exact Or.inl rfl | exact Or.inr rfl | omega) (by first | exact pxb_pos (by omega) | exact pxb_neg (by omega))
    · refine PW.iconst (pc := 10) dX11_in_10 ?_
      refine PW.goto (pc := 11) (tgt := 15) dX11_in_11 (by decide) ?_
      exact PW.zreturn (pc := 15) dX11_in_15 rfl (by first | exact Or.inl rfl | exact Or.inr rfl | omega) (by first | exact pxb_pos (by omega) | exact pxb_neg (by omega))
set_option maxRecDepth 100000 in
set_option maxHeartbeats 1000000 in
theorem c_X11_has (d : Nat) {I : PIm} {x k : Int} : PC sc mX11_has d 0 0 [.inl x, .inl k] Γ I R (px (some (.inl (bi (pw_and (pw_shr x k) 1 = 1)))) Γ I R) := by
  refine PC.ofPW (by decide) (Nat.le_of_ble_eq_true rfl) ?_
  refine PW.iload_n (pc := 0) dX11_has_0 rfl ?_
  refine PW.iload_n (pc := 1) dX11_has_1 rfl ?_
  refine PW.ishr (pc := 2) dX11_has_2 ?_
  refine PW.iconst (pc := 3) dX11_has_3 ?_
  refine PW.iand (pc := 4) dX11_has_4 ?_
  refine PW.iconst (pc := 5) dX11_has_5 ?_
  refine PW.icmp_ne (pc := 6) (tgt := 13) dX11_has_6 (by decide) (by first | omega | exact rg_of _) (by omega) (fun c_6 => ?_) (fun c_6 => ?_)
  · refine PW.iconst (pc := 13) dX11_has_13 ?_
    exact PW.zreturn (pc := 14) dX11_has_14 rfl (by first | exact Or.inl rfl | exact Or.inr rfl | omega) (by first | exact pxb_pos c_6 | exact pxb_neg c_6)
  · refine PW.iconst (pc := 9) dX11_has_9 ?_
    refine PW.goto (pc := 10) (tgt := 14) dX11_has_10 (by decide) ?_
    exact PW.zreturn (pc := 14) dX11_has_14 rfl (by first | exact Or.inl rfl | exact Or.inr rfl | omega) (by first | exact pxb_pos c_6 | exact pxb_neg c_6)
set_option maxRecDepth 100000 in
set_option maxHeartbeats 1000000 in
theorem ones_d : ∀ x : Fin 64, bi (pw_and (pw_shr (x.val : Int) 0) 1 = 1) + bi (pw_and (pw_shr (x.val : Int) 1) 1 = 1) + bi (pw_and (pw_shr (x.val : Int) 2) 1 = 1) + bi (pw_and (pw_shr (x.val : Int) 3) 1 = 1) + bi (pw_and (pw_shr (x.val : Int) 4) 1 = 1) + bi (pw_and (pw_shr (x.val : Int) 5) 1 = 1) + bi (pw_and (pw_shr (x.val : Int) 6) 1 = 1) + bi (pw_and (pw_shr (x.val : Int) 7) 1 = 1) = pcn (x.val : Int) := by decide +kernel
def onesTo (x : Int) : Nat → Int
  | 0 => 0
  | k + 1 => onesTo x k + bi (pw_and (pw_shr x (k : Int)) 1 = 1)
set_option maxRecDepth 100000 in
set_option maxHeartbeats 1000000 in
theorem ones_eq {x : Int} (h0 : 0 ≤ x) (h1 : x < 64) : onesTo x 8 = pcn x := by
  have := ones_d ⟨x.toNat, by omega⟩
  simp only [Int.toNat_of_nonneg h0] at this
  rw [← this]
  simp [onesTo]
set_option maxRecDepth 100000 in
set_option maxHeartbeats 1000000 in
theorem c_X11_ones (d : Nat) {I : PIm} {x : Int} (h0 : 0 ≤ x) (h1 : x < 64) : PC sc mX11_ones (d + 1) 0 0 [.inl x] Γ I R (px (some (.inl (pcn x))) Γ I R) := by
  rw [← ones_eq h0 h1]
  have loop : ∀ (N k : Nat), 8 - k = N → k ≤ 8 → PW sc mX11_ones (d + 1) 0 0 (px (some (.inl (onesTo x 8))) Γ I R) 4 [some (.inl x), some (.inl (onesTo x k)), some (.inl (k : Int))] [] Γ I R := by
    intro N
    induction N using Nat.strongRecOn with
    | _ N ih =>
      intro k hN hk
      by_cases h8 : k < 8
      · have nx := ih (8 - (k + 1)) (by omega) (k + 1) rfl (by omega)
        rw [show onesTo x (k + 1) = onesTo x k + bi (pw_and (pw_shr x (k : Int)) 1 = 1) from rfl] at nx
        refine PW.iload_n (pc := 4) dX11_ones_4 rfl ?_
        refine PW.bipush (pc := 5) dX11_ones_5 (by decide) ?_
        refine PW.icmp_ge (pc := 7) (tgt := 32) dX11_ones_7 (by decide) (by first | omega | exact rg_of _) (by first | omega | exact rg_of _) (fun c_7 => ?_) (fun c_7 => ?_)
        · omega
        · refine PW.iload_n (pc := 10) dX11_ones_10 rfl ?_
          refine PW.iload_n (pc := 11) dX11_ones_11 rfl ?_
          refine PW.iload_n (pc := 12) dX11_ones_12 rfl ?_
          refine PW.invS0x (pc := 13) dX11_ones_13 ms_X11_108 (c_X11_has _) rfl rfl (Nat.le_of_ble_eq_true rfl) ?_
          refine PW.if_eq (pc := 16) (tgt := 23) dX11_ones_16 (by decide) (rg_bi _) (fun c_16 => ?_) (fun c_16 => ?_)
          · refine PW.iconst (pc := 23) dX11_ones_23 ?_
            refine PW.iadd (pc := 24) dX11_ones_24 ?_
            refine PW.istore_n (pc := 25) dX11_ones_25 (by decide) ?_
            refine PW.iinc (pc := 26) dX11_ones_26 rfl (by decide) ?_
            refine PW.goto (pc := 29) (tgt := 4) dX11_ones_29 (by decide) ?_
            first
            | (rw [bi_neg (bi0 c_16)] at nx; exact nx)
            | (rw [bi_pos (bi1 c_16)] at nx; exact nx)
          · refine PW.iconst (pc := 19) dX11_ones_19 ?_
            refine PW.goto (pc := 20) (tgt := 24) dX11_ones_20 (by decide) ?_
            refine PW.iadd (pc := 24) dX11_ones_24 ?_
            refine PW.istore_n (pc := 25) dX11_ones_25 (by decide) ?_
            refine PW.iinc (pc := 26) dX11_ones_26 rfl (by decide) ?_
            refine PW.goto (pc := 29) (tgt := 4) dX11_ones_29 (by decide) ?_
            first
            | (rw [bi_neg (bi0 c_16)] at nx; exact nx)
            | (rw [bi_pos (bi1 c_16)] at nx; exact nx)
      · obtain rfl : k = 8 := by omega
        refine PW.iload_n (pc := 4) dX11_ones_4 rfl ?_
        refine PW.bipush (pc := 5) dX11_ones_5 (by decide) ?_
        refine PW.icmp_ge (pc := 7) (tgt := 32) dX11_ones_7 (by decide) (by first | omega | exact rg_of _) (by first | omega | exact rg_of _) (fun c_7 => ?_) (fun c_7 => ?_)
        · refine PW.iload_n (pc := 32) dX11_ones_32 rfl ?_
          exact PW.ireturn (pc := 33) dX11_ones_33 rfl (px_rfl)
        · omega
  refine PC.ofPW (by decide) (Nat.le_of_ble_eq_true rfl) ?_
  refine PW.iconst (pc := 0) dX11_ones_0 ?_
  refine PW.istore_n (pc := 1) dX11_ones_1 (by decide) ?_
  refine PW.iconst (pc := 2) dX11_ones_2 ?_
  refine PW.istore_n (pc := 3) dX11_ones_3 (by decide) ?_
  exact loop 8 0 rfl (by omega)
/-- a row of the reference's terms -/
def mrow (I : PIm) (j w a b : Int) : Prop := I 122 j = w ∧ I 123 j = a ∧ I 124 j = b
set_option maxRecDepth 100000 in
set_option maxHeartbeats 1000000 in
theorem c_X11_node (d : Nat) {I : PIm} {z : Nat} {w a b : Int} (M : MAt Γ R) (hz : I 112 13 = z) (z1 : z < 200) (hw : Rg w) (ha : Rg a) (hb : Rg b) (hr : ∀ j : Int, 0 ≤ j → j < z → Rg (I 122 j) ∧ Rg (I 123 j) ∧ Rg (I 124 j)) : PC sc mX11_node d 0 0 [.inr (some 112), .inl w, .inl a, .inl b] Γ I R (fun v Γ' I' R' => Γ' = Γ ∧ R' = R ∧ ∃ i : Int, v = some (.inl i) ∧ ((0 ≤ i ∧ i < z ∧ mrow I i w a b ∧ I' = I) ∨ (i = z ∧ (∀ j : Int, 0 ≤ j → j < z → ¬ mrow I j w a b) ∧ I' = pw_up (pw_up (pw_up (pw_up I 122 z w) 123 z a) 124 z b) 112 13 (z + 1)))) := by
  have loop : ∀ (N k : Nat), z - k = N → k ≤ z → (∀ j : Int, 0 ≤ j → j < k → ¬ mrow I j w a b) → PW sc mX11_node d 0 0 (fun v Γ' I' R' => Γ' = Γ ∧ R' = R ∧ ∃ i : Int, v = some (.inl i) ∧ ((0 ≤ i ∧ i < z ∧ mrow I i w a b ∧ I' = I) ∨ (i = z ∧ (∀ j : Int, 0 ≤ j → j < z → ¬ mrow I j w a b) ∧ I' = pw_up (pw_up (pw_up (pw_up I 122 z w) 123 z a) 124 z b) 112 13 (z + 1)))) 3 [some (.inr (some 112)), some (.inl w), some (.inl a), some (.inl b), some (.inl (k : Int))] [] Γ I R := by
    intro N
    induction N using Nat.strongRecOn with
    | _ N ih =>
      intro k hN hk hno
      by_cases hl : k < z
      · obtain ⟨h1, h2, h3⟩ := hr k (by omega) (by omega)
        have nx := fun h => ih (z - (k + 1)) (by omega) (k + 1) rfl (by omega) h
        refine PW.iload (pc := 3) dX11_node_3 rfl ?_
        refine PW.aload_n (pc := 5) dX11_node_5 rfl ?_
        refine PW.geti (pc := 6) dX11_node_6 fl_X11_112 (by decide) M.g112 ?_
        rw [hz]
        refine PW.icmp_ge (pc := 9) (tgt := 54) dX11_node_9 (by decide) (by first | omega | exact rg_of _) (by first | omega | exact rg_of _) (fun c_9 => ?_) (fun c_9 => ?_)
        · omega
        · refine PW.aload_n (pc := 12) dX11_node_12 rfl ?_
          refine PW.getr (pc := 13) dX11_node_13 fl_X11_38 M.g112 M.r15 ?_
          refine PW.iload (pc := 16) dX11_node_16 rfl ?_
          refine PW.iald (pc := 18) dX11_node_18 M.g122 (by omega) (by omega) (by omega) ?_
          refine PW.iload_n (pc := 19) dX11_node_19 rfl ?_
          refine PW.icmp_ne (pc := 20) (tgt := 48) dX11_node_20 (by decide) (by first | omega | exact rg_of _) (by first | omega | exact rg_of _) (fun c_20 => ?_) (fun c_20 => ?_)
          · refine PW.iinc (pc := 48) dX11_node_48 rfl (by decide) ?_
            refine PW.goto (pc := 51) (tgt := 3) dX11_node_51 (by decide) ?_
            exact nx (fun j j0 j1 => by
              by_cases e : j = (k : Int)
              · rw [e]; rintro ⟨q1, q2, q3⟩; omega
              · exact hno j j0 (by omega))
          · refine PW.aload_n (pc := 23) dX11_node_23 rfl ?_
            refine PW.getr (pc := 24) dX11_node_24 fl_X11_41 M.g112 M.r16 ?_
            refine PW.iload (pc := 27) dX11_node_27 rfl ?_
            refine PW.iald (pc := 29) dX11_node_29 M.g123 (by omega) (by omega) (by omega) ?_
            refine PW.iload_n (pc := 30) dX11_node_30 rfl ?_
            refine PW.icmp_ne (pc := 31) (tgt := 48) dX11_node_31 (by decide) (by first | omega | exact rg_of _) (by first | omega | exact rg_of _) (fun c_31 => ?_) (fun c_31 => ?_)
            · refine PW.iinc (pc := 48) dX11_node_48 rfl (by decide) ?_
              refine PW.goto (pc := 51) (tgt := 3) dX11_node_51 (by decide) ?_
              exact nx (fun j j0 j1 => by
                by_cases e : j = (k : Int)
                · rw [e]; rintro ⟨q1, q2, q3⟩; omega
                · exact hno j j0 (by omega))
            · refine PW.aload_n (pc := 34) dX11_node_34 rfl ?_
              refine PW.getr (pc := 35) dX11_node_35 fl_X11_44 M.g112 M.r17 ?_
              refine PW.iload (pc := 38) dX11_node_38 rfl ?_
              refine PW.iald (pc := 40) dX11_node_40 M.g124 (by omega) (by omega) (by omega) ?_
              refine PW.iload_n (pc := 41) dX11_node_41 rfl ?_
              refine PW.icmp_ne (pc := 42) (tgt := 48) dX11_node_42 (by decide) (by first | omega | exact rg_of _) (by first | omega | exact rg_of _) (fun c_42 => ?_) (fun c_42 => ?_)
              · refine PW.iinc (pc := 48) dX11_node_48 rfl (by decide) ?_
                refine PW.goto (pc := 51) (tgt := 3) dX11_node_51 (by decide) ?_
                exact nx (fun j j0 j1 => by
                  by_cases e : j = (k : Int)
                  · rw [e]; rintro ⟨q1, q2, q3⟩; omega
                  · exact hno j j0 (by omega))
              · refine PW.iload (pc := 45) dX11_node_45 rfl ?_
                exact PW.ireturn (pc := 47) dX11_node_47 rfl (⟨rfl, rfl, k, rfl, Or.inl ⟨by omega, by omega, ⟨by omega, by omega, by omega⟩, rfl⟩⟩)
      · obtain rfl : k = z := by omega
        have x1 : pw_up I 122 k w 112 13 = k := by rw [pw_up_other (by omega)]; exact hz
        have x2 : pw_up (pw_up I 122 k w) 123 k a 112 13 = k := by rw [pw_up_other (by omega)]; exact x1
        have x3 : pw_up (pw_up (pw_up I 122 k w) 123 k a) 124 k b 112 13 = k := by rw [pw_up_other (by omega)]; exact x2
        refine PW.iload (pc := 3) dX11_node_3 rfl ?_
        refine PW.aload_n (pc := 5) dX11_node_5 rfl ?_
        refine PW.geti (pc := 6) dX11_node_6 fl_X11_112 (by decide) M.g112 ?_
        rw [hz]
        refine PW.icmp_ge (pc := 9) (tgt := 54) dX11_node_9 (by decide) (by first | omega | exact rg_of _) (by first | omega | exact rg_of _) (fun c_9 => ?_) (fun c_9 => ?_)
        · refine PW.aload_n (pc := 54) dX11_node_54 rfl ?_
          refine PW.getr (pc := 55) dX11_node_55 fl_X11_38 M.g112 M.r15 ?_
          refine PW.aload_n (pc := 58) dX11_node_58 rfl ?_
          refine PW.geti (pc := 59) dX11_node_59 fl_X11_112 (by decide) M.g112 ?_
          rw [hz]
          refine PW.iload_n (pc := 62) dX11_node_62 rfl ?_
          refine PW.iast (pc := 63) dX11_node_63 M.g122 (by omega) (by omega) (by omega) ?_
          refine PW.aload_n (pc := 64) dX11_node_64 rfl ?_
          refine PW.getr (pc := 65) dX11_node_65 fl_X11_41 M.g112 M.r16 ?_
          refine PW.aload_n (pc := 68) dX11_node_68 rfl ?_
          refine PW.geti (pc := 69) dX11_node_69 fl_X11_112 (by decide) M.g112 ?_
          rw [x1]
          refine PW.iload_n (pc := 72) dX11_node_72 rfl ?_
          refine PW.iast (pc := 73) dX11_node_73 M.g123 (by omega) (by omega) (by omega) ?_
          refine PW.aload_n (pc := 74) dX11_node_74 rfl ?_
          refine PW.getr (pc := 75) dX11_node_75 fl_X11_44 M.g112 M.r17 ?_
          refine PW.aload_n (pc := 78) dX11_node_78 rfl ?_
          refine PW.geti (pc := 79) dX11_node_79 fl_X11_112 (by decide) M.g112 ?_
          rw [x2]
          refine PW.iload_n (pc := 82) dX11_node_82 rfl ?_
          refine PW.iast (pc := 83) dX11_node_83 M.g124 (by omega) (by omega) (by omega) ?_
          refine PW.aload_n (pc := 84) dX11_node_84 rfl ?_
          refine PW.dup (pc := 85) dX11_node_85 ?_
          refine PW.geti (pc := 86) dX11_node_86 fl_X11_112 (by decide) M.g112 ?_
          rw [x3]
          refine PW.iconst (pc := 89) dX11_node_89 ?_
          refine PW.iadd (pc := 90) dX11_node_90 ?_
          refine PW.puti (pc := 91) dX11_node_91 fl_X11_112 M.g112 ?_
          refine PW.aload_n (pc := 94) dX11_node_94 rfl ?_
          refine PW.geti (pc := 95) dX11_node_95 fl_X11_112 (by decide) M.g112 ?_
          rw [pw_up_self]
          refine PW.iconst (pc := 98) dX11_node_98 ?_
          refine PW.isub (pc := 99) dX11_node_99 ?_
          exact PW.ireturn (pc := 100) dX11_node_100 rfl (⟨rfl, rfl, k, by rw [show (k : Int) + 1 - 1 = k by omega], Or.inr ⟨rfl, hno, rfl⟩⟩)
        · omega
  refine PC.ofPW (by decide) (Nat.le_of_ble_eq_true rfl) ?_
  refine PW.iconst (pc := 0) dX11_node_0 ?_
  refine PW.istore (pc := 1) dX11_node_1 (by decide) ?_
  exact loop z 0 (by omega) (by omega) (fun j j0 j1 => by omega)
set_option maxRecDepth 100000 in
set_option maxHeartbeats 1000000 in
theorem c_X11_its (d : Nat) {I : PIm} {k w : Int} (M : MAt Γ R) (h0 : 0 ≤ 1 + 4 * k + w) (h1 : 1 + 4 * k + w < 29) : PC sc mX11_its d 0 0 [.inr (some 112), .inl k, .inl w] Γ I R (px (some (.inl (I 116 (1 + 4 * k + w)))) Γ I R) := by
  refine PC.ofPW (by decide) (Nat.le_of_ble_eq_true rfl) ?_
  refine PW.aload_n (pc := 0) dX11_its_0 rfl ?_
  refine PW.getr (pc := 1) dX11_its_1 fl_X11_20 M.g112 M.r5 ?_
  refine PW.iconst (pc := 4) dX11_its_4 ?_
  refine PW.iconst (pc := 5) dX11_its_5 ?_
  refine PW.iload_n (pc := 6) dX11_its_6 rfl ?_
  refine PW.imul (pc := 7) dX11_its_7 ?_
  refine PW.iadd (pc := 8) dX11_its_8 ?_
  refine PW.iload_n (pc := 9) dX11_its_9 rfl ?_
  refine PW.iadd (pc := 10) dX11_its_10 ?_
  refine PW.iald (pc := 11) dX11_its_11 M.g116 (by omega) (by omega) (by omega) ?_
  exact PW.ireturn (pc := 12) dX11_its_12 rfl (px_rfl)
/-- the program in the reference's row -/
def ProgM (I : PIm) (P : Int → Int) (n : Nat) : Prop := I 116 0 = n ∧ n ≤ 6 ∧ ∀ k : Int, 0 ≤ k → k < n → okc (P k) ∧ I 116 (1 + 4 * k + 0) = kd (P k) ∧ I 116 (1 + 4 * k + 1) = dd (P k) ∧ I 116 (1 + 4 * k + 2) = ss (P k) ∧ I 116 (1 + 4 * k + 3) = tt (P k)
set_option maxRecDepth 100000 in
set_option maxHeartbeats 1000000 in
theorem c_X11_makes (d : Nat) {I : PIm} {P : Int → Int} {n : Nat} {k r : Int} (M : MAt Γ R) (hP : ProgM I P n) (k0 : 0 ≤ k) (k1 : k < n) (hr : Rg r) : PC sc mX11_makes (d + 1) 0 0 [.inr (some 112), .inl k, .inl r] Γ I R (px (some (.inl (bi (mks P k r)))) Γ I R) := by
  obtain ⟨p1, p2, p3⟩ := id hP
  obtain ⟨q0, q1, q2, q3, q4⟩ := p3 k k0 k1
  have e1 := kd_rg q0
  have e2 := dd_rg (P k)
  have g112 := M.1
  refine PC.ofPW (by decide) (Nat.le_of_ble_eq_true rfl) ?_
  refine PW.aload_n (pc := 0) dX11_makes_0 rfl ?_
  refine PW.iload_n (pc := 1) dX11_makes_1 rfl ?_
  refine PW.iconst (pc := 2) dX11_makes_2 ?_
  refine PW.invV0x (pc := 3) dX11_makes_3 mv_X11_189 (c_X11_its _ M (by omega) (by omega)) M.g112 rfl rfl (Nat.le_of_ble_eq_true rfl) ?_
  rw [q1]
  refine PW.if_le (pc := 6) (tgt := 23) dX11_makes_6 (by decide) (by first | omega | exact rg_of _) (fun c_6 => ?_) (fun c_6 => ?_)
  · refine PW.iconst (pc := 23) dX11_makes_23 ?_
    exact PW.zreturn (pc := 24) dX11_makes_24 rfl (by first | exact Or.inl rfl | exact Or.inr rfl | omega) (by first | exact pxb_pos ⟨by omega, by omega⟩ | exact pxb_neg (fun o => by have := o.1; have := o.2; omega))
  · refine PW.aload_n (pc := 9) dX11_makes_9 rfl ?_
    refine PW.iload_n (pc := 10) dX11_makes_10 rfl ?_
    refine PW.iconst (pc := 11) dX11_makes_11 ?_
    refine PW.invV0x (pc := 12) dX11_makes_12 mv_X11_189 (c_X11_its _ M (by omega) (by omega)) M.g112 rfl rfl (Nat.le_of_ble_eq_true rfl) ?_
    rw [q2]
    refine PW.iload_n (pc := 15) dX11_makes_15 rfl ?_
    refine PW.icmp_ne (pc := 16) (tgt := 23) dX11_makes_16 (by decide) (by first | omega | exact rg_of _) (by first | omega | exact rg_of _) (fun c_16 => ?_) (fun c_16 => ?_)
    · refine PW.iconst (pc := 23) dX11_makes_23 ?_
      exact PW.zreturn (pc := 24) dX11_makes_24 rfl (by first | exact Or.inl rfl | exact Or.inr rfl | omega) (by first | exact pxb_pos ⟨by omega, by omega⟩ | exact pxb_neg (fun o => by have := o.1; have := o.2; omega))
    · refine PW.iconst (pc := 19) dX11_makes_19 ?_
      refine PW.goto (pc := 20) (tgt := 24) dX11_makes_20 (by decide) ?_
      exact PW.zreturn (pc := 24) dX11_makes_24 rfl (by first | exact Or.inl rfl | exact Or.inr rfl | omega) (by first | exact pxb_pos ⟨by omega, by omega⟩ | exact pxb_neg (fun o => by have := o.1; have := o.2; omega))
set_option maxRecDepth 100000 in
set_option maxHeartbeats 1000000 in
theorem c_X11_isVisible (d : Nat) {I : PIm} {x lag fw : Int} (M : MAt Γ R) (hl : I 116 26 = lag) (hx : Rg x) (hlr : Rg lag) : PC sc mX11_isVisible (d + 1) 0 0 [.inr (some 112), .inl x, .inl fw] Γ I R (px (some (.inl (bi (vis lag fw x)))) Γ I R) := by
  refine PC.ofPW (by decide) (Nat.le_of_ble_eq_true rfl) ?_
  refine PW.iload_n (pc := 0) dX11_isVisible_0 rfl ?_
  refine PW.aload_n (pc := 1) dX11_isVisible_1 rfl ?_
  refine PW.getr (pc := 2) dX11_isVisible_2 fl_X11_20 M.g112 M.r5 ?_
  refine PW.bipush (pc := 5) dX11_isVisible_5 (by decide) ?_
  refine PW.iald (pc := 7) dX11_isVisible_7 M.g116 (by omega) (by omega) (by omega) ?_
  rw [hl]
  refine PW.icmp_gt (pc := 8) (tgt := 30) dX11_isVisible_8 (by decide) (by first | omega | exact rg_of _) (by first | omega | exact rg_of _) (fun c_8 => ?_) (fun c_8 => ?_)
  · refine PW.iconst (pc := 30) dX11_isVisible_30 ?_
    refine PW.goto (pc := 31) (tgt := 35) dX11_isVisible_31 (by decide) ?_
    exact PW.zreturn (pc := 35) dX11_isVisible_35 rfl (by first | exact Or.inl rfl | exact Or.inr rfl | omega) (by first | exact pxb_pos (Or.inl (by omega)) | exact pxb_pos (Or.inr ⟨by omega, by omega, bi1 c_27⟩) | exact pxb_neg (fun o => o.elim (fun o => by omega) (fun o => bi0 c_27 o.2.2)) | exact pxb_neg (fun o => o.elim (fun o => by omega) (fun o => by have := o.1; have := o.2.1; omega)))
  · refine PW.iload_n (pc := 11) dX11_isVisible_11 rfl ?_
    refine PW.iconst (pc := 12) dX11_isVisible_12 ?_
    refine PW.icmp_ge (pc := 13) (tgt := 34) dX11_isVisible_13 (by decide) (by first | omega | exact rg_of _) (by first | omega | exact rg_of _) (fun c_13 => ?_) (fun c_13 => ?_)
    · refine PW.iconst (pc := 34) dX11_isVisible_34 ?_
      exact PW.zreturn (pc := 35) dX11_isVisible_35 rfl (by first | exact Or.inl rfl | exact Or.inr rfl | omega) (by first | exact pxb_pos (Or.inl (by omega)) | exact pxb_pos (Or.inr ⟨by omega, by omega, bi1 c_27⟩) | exact pxb_neg (fun o => o.elim (fun o => by omega) (fun o => bi0 c_27 o.2.2)) | exact pxb_neg (fun o => o.elim (fun o => by omega) (fun o => by have := o.1; have := o.2.1; omega)))
    · refine PW.iload_n (pc := 16) dX11_isVisible_16 rfl ?_
      refine PW.if_le (pc := 17) (tgt := 34) dX11_isVisible_17 (by decide) (by first | omega | exact rg_of _) (fun c_17 => ?_) (fun c_17 => ?_)
      · refine PW.iconst (pc := 34) dX11_isVisible_34 ?_
        exact PW.zreturn (pc := 35) dX11_isVisible_35 rfl (by first | exact Or.inl rfl | exact Or.inr rfl | omega) (by first | exact pxb_pos (Or.inl (by omega)) | exact pxb_pos (Or.inr ⟨by omega, by omega, bi1 c_27⟩) | exact pxb_neg (fun o => o.elim (fun o => by omega) (fun o => bi0 c_27 o.2.2)) | exact pxb_neg (fun o => o.elim (fun o => by omega) (fun o => by have := o.1; have := o.2.1; omega)))
      · refine PW.iload_n (pc := 20) dX11_isVisible_20 rfl ?_
        refine PW.iload_n (pc := 21) dX11_isVisible_21 rfl ?_
        refine PW.iconst (pc := 22) dX11_isVisible_22 ?_
        refine PW.isub (pc := 23) dX11_isVisible_23 ?_
        refine PW.invS0x (pc := 24) dX11_isVisible_24 ms_X11_108 (c_X11_has _) rfl rfl (Nat.le_of_ble_eq_true rfl) ?_
        refine PW.if_eq (pc := 27) (tgt := 34) dX11_isVisible_27 (by decide) (rg_bi _) (fun c_27 => ?_) (fun c_27 => ?_)
        · refine PW.iconst (pc := 34) dX11_isVisible_34 ?_
          exact PW.zreturn (pc := 35) dX11_isVisible_35 rfl (by first | exact Or.inl rfl | exact Or.inr rfl | omega) (by first | exact pxb_pos (Or.inl (by omega)) | exact pxb_pos (Or.inr ⟨by omega, by omega, bi1 c_27⟩) | exact pxb_neg (fun o => o.elim (fun o => by omega) (fun o => bi0 c_27 o.2.2)) | exact pxb_neg (fun o => o.elim (fun o => by omega) (fun o => by have := o.1; have := o.2.1; omega)))
        · refine PW.iconst (pc := 30) dX11_isVisible_30 ?_
          refine PW.goto (pc := 31) (tgt := 35) dX11_isVisible_31 (by decide) ?_
          exact PW.zreturn (pc := 35) dX11_isVisible_35 rfl (by first | exact Or.inl rfl | exact Or.inr rfl | omega) (by first | exact pxb_pos (Or.inl (by omega)) | exact pxb_pos (Or.inr ⟨by omega, by omega, bi1 c_27⟩) | exact pxb_neg (fun o => o.elim (fun o => by omega) (fun o => bi0 c_27 o.2.2)) | exact pxb_neg (fun o => o.elim (fun o => by omega) (fun o => by have := o.1; have := o.2.1; omega)))
set_option maxRecDepth 100000 in
set_option maxHeartbeats 1000000 in
theorem c_X11_latest (d : Nat) {I : PIm} {P : Int → Int} {n k : Nat} {r : Int} (M : MAt Γ R) (hP : ProgM I P n) (hk : k ≤ n) (hr : Rg r) : PC sc mX11_latest (d + 2) 0 0 [.inr (some 112), .inl (k : Int), .inl r] Γ I R (px (some (.inl (lat P k r))) Γ I R) := by
  have g112 := M.1
  have hn6 := hP.2.1
  have loop : ∀ (j : Nat), j ≤ k → lat P k r = lat P j r → PW sc mX11_latest (d + 2) 0 0 (px (some (.inl (lat P k r))) Γ I R) 4 [some (.inr (some 112)), some (.inl (k : Int)), some (.inl r), some (.inl ((j : Int) - 1))] [] Γ I R := by
    intro j
    induction j with
    | zero =>
      intro hj he
      rw [he, lat]
      refine PW.iload_n (pc := 4) dX11_latest_4 rfl ?_
      refine PW.if_lt (pc := 5) (tgt := 23) dX11_latest_5 (by decide) (by first | omega | exact rg_of _) (fun c_5 => ?_) (fun c_5 => ?_)
      · refine PW.iload_n (pc := 23) dX11_latest_23 rfl ?_
        exact PW.ireturn (pc := 24) dX11_latest_24 rfl (px_rfl)
      · omega
    | succ j ih =>
      intro hj he
      rw [lat] at he
      have e : (((j + 1 : Nat) : Int) - 1) = (j : Int) := by omega
      rw [e]
      have MK := c_X11_makes (sc := sc) (Γ := Γ) (R := R) (d) M hP (k := (j : Int)) (r := r) (by omega) (by omega) hr
      by_cases q : mks P (j : Int) r
      · rw [if_pos q] at he
        rw [bi_pos q] at MK
        rw [he]
        refine PW.iload_n (pc := 4) dX11_latest_4 rfl ?_
        refine PW.if_lt (pc := 5) (tgt := 23) dX11_latest_5 (by decide) (by first | omega | exact rg_of _) (fun c_5 => ?_) (fun c_5 => ?_)
        · omega
        · refine PW.aload_n (pc := 8) dX11_latest_8 rfl ?_
          refine PW.iload_n (pc := 9) dX11_latest_9 rfl ?_
          refine PW.iload_n (pc := 10) dX11_latest_10 rfl ?_
          refine PW.invV0x (pc := 11) dX11_latest_11 mv_X11_193 (MK) M.g112 rfl rfl (Nat.le_of_ble_eq_true rfl) ?_
          refine PW.if_ne (pc := 14) (tgt := 23) dX11_latest_14 (by decide) (by first | omega | exact rg_of _) (fun c_14 => ?_) (fun c_14 => ?_)
          · refine PW.iload_n (pc := 23) dX11_latest_23 rfl ?_
            exact PW.ireturn (pc := 24) dX11_latest_24 rfl (px_rfl)
          · omega
      · rw [if_neg q] at he
        rw [bi_neg q] at MK
        refine PW.iload_n (pc := 4) dX11_latest_4 rfl ?_
        refine PW.if_lt (pc := 5) (tgt := 23) dX11_latest_5 (by decide) (by first | omega | exact rg_of _) (fun c_5 => ?_) (fun c_5 => ?_)
        · omega
        · refine PW.aload_n (pc := 8) dX11_latest_8 rfl ?_
          refine PW.iload_n (pc := 9) dX11_latest_9 rfl ?_
          refine PW.iload_n (pc := 10) dX11_latest_10 rfl ?_
          refine PW.invV0x (pc := 11) dX11_latest_11 mv_X11_193 (MK) M.g112 rfl rfl (Nat.le_of_ble_eq_true rfl) ?_
          refine PW.if_ne (pc := 14) (tgt := 23) dX11_latest_14 (by decide) (by first | omega | exact rg_of _) (fun c_14 => ?_) (fun c_14 => ?_)
          · omega
          · refine PW.iinc (pc := 17) dX11_latest_17 rfl (by decide) ?_
            refine PW.goto (pc := 20) (tgt := 4) dX11_latest_20 (by decide) ?_
            exact ih (by omega) he
  refine PC.ofPW (by decide) (Nat.le_of_ble_eq_true rfl) ?_
  refine PW.iload_n (pc := 0) dX11_latest_0 rfl ?_
  refine PW.iconst (pc := 1) dX11_latest_1 ?_
  refine PW.isub (pc := 2) dX11_latest_2 ?_
  refine PW.istore_n (pc := 3) dX11_latest_3 (by decide) ?_
  exact loop k (by omega) rfl
set_option maxRecDepth 100000 in
set_option maxHeartbeats 1000000 in
theorem c_X11_hasIt (d : Nat) {I : PIm} {P : Int → Int} {n k : Nat} {x r lag fw : Int} (M : MAt Γ R) (hP : ProgM I P n) (hk : k ≤ n) (hr : Rg r) (hx : 0 ≤ x ∧ x ≤ 1000) (hl : I 116 26 = lag) (hlr : Rg lag) (hS : ∀ j : Int, 0 ≤ j → j < k → 0 ≤ I 138 j ∧ I 138 j ≤ 1000) : PC sc mX11_hasIt (d + 3) 0 0 [.inr (some 112), .inl (k : Int), .inl x, .inl r, .inl fw] Γ I R (px (some (.inl (bi (hit P (I 138) lag fw k x r)))) Γ I R) := by
  have hn6 := hP.2.1
  have lr := lat_rg P k r
  refine PC.ofPW (by decide) (Nat.le_of_ble_eq_true rfl) ?_
  by_cases q : lat P k r < 0
  · refine PW.aload_n (pc := 0) dX11_hasIt_0 rfl ?_
    refine PW.iload_n (pc := 1) dX11_hasIt_1 rfl ?_
    refine PW.iload_n (pc := 2) dX11_hasIt_2 rfl ?_
    refine PW.invV0x (pc := 3) dX11_hasIt_3 mv_X11_196 (c_X11_latest _ M hP hk hr) M.g112 rfl rfl (Nat.le_of_ble_eq_true rfl) ?_
    refine PW.istore (pc := 6) dX11_hasIt_6 (by decide) ?_
    refine PW.iload (pc := 8) dX11_hasIt_8 rfl ?_
    refine PW.if_lt (pc := 10) (tgt := 31) dX11_hasIt_10 (by decide) (by first | omega | exact rg_of _) (fun c_10 => ?_) (fun c_10 => ?_)
    · refine PW.iconst (pc := 31) dX11_hasIt_31 ?_
      refine PW.goto (pc := 32) (tgt := 36) dX11_hasIt_32 (by decide) ?_
      exact PW.zreturn (pc := 36) dX11_hasIt_36 rfl (by first | exact Or.inl rfl | exact Or.inr rfl | omega) (by exact pxb_pos (Or.inl q))
    · omega
  · have hs := hS (lat P k r) (by omega) (by omega)
    refine PW.aload_n (pc := 0) dX11_hasIt_0 rfl ?_
    refine PW.iload_n (pc := 1) dX11_hasIt_1 rfl ?_
    refine PW.iload_n (pc := 2) dX11_hasIt_2 rfl ?_
    refine PW.invV0x (pc := 3) dX11_hasIt_3 mv_X11_196 (c_X11_latest _ M hP hk hr) M.g112 rfl rfl (Nat.le_of_ble_eq_true rfl) ?_
    refine PW.istore (pc := 6) dX11_hasIt_6 (by decide) ?_
    refine PW.iload (pc := 8) dX11_hasIt_8 rfl ?_
    refine PW.if_lt (pc := 10) (tgt := 31) dX11_hasIt_10 (by decide) (by first | omega | exact rg_of _) (fun c_10 => ?_) (fun c_10 => ?_)
    · omega
    · refine PW.aload_n (pc := 13) dX11_hasIt_13 rfl ?_
      refine PW.iload_n (pc := 14) dX11_hasIt_14 rfl ?_
      refine PW.aload_n (pc := 15) dX11_hasIt_15 rfl ?_
      refine PW.getr (pc := 16) dX11_hasIt_16 fl_X11_86 M.g112 M.r37 ?_
      refine PW.iload (pc := 19) dX11_hasIt_19 rfl ?_
      refine PW.iald (pc := 21) dX11_hasIt_21 M.g138 (by omega) (by omega) (by omega) ?_
      refine PW.isub (pc := 22) dX11_hasIt_22 ?_
      refine PW.iload (pc := 23) dX11_hasIt_23 rfl ?_
      refine PW.invV0x (pc := 25) dX11_hasIt_25 mv_X11_199 (c_X11_isVisible _ M hl (by omega) hlr) M.g112 rfl rfl (Nat.le_of_ble_eq_true rfl) ?_
      refine PW.if_eq (pc := 28) (tgt := 35) dX11_hasIt_28 (by decide) (rg_bi _) (fun c_28 => ?_) (fun c_28 => ?_)
      · refine PW.iconst (pc := 35) dX11_hasIt_35 ?_
        exact PW.zreturn (pc := 36) dX11_hasIt_36 rfl (by first | exact Or.inl rfl | exact Or.inr rfl | omega) (by first | exact pxb_pos (Or.inr (bi1 c_28)) | exact pxb_neg (fun o => o.elim q (bi0 c_28)))
      · refine PW.iconst (pc := 31) dX11_hasIt_31 ?_
        refine PW.goto (pc := 32) (tgt := 36) dX11_hasIt_32 (by decide) ?_
        exact PW.zreturn (pc := 36) dX11_hasIt_36 rfl (by first | exact Or.inl rfl | exact Or.inr rfl | omega) (by first | exact pxb_pos (Or.inr (bi1 c_28)) | exact pxb_neg (fun o => o.elim q (bi0 c_28)))
set_option maxRecDepth 100000 in
set_option maxHeartbeats 1000000 in
theorem c_X11_mayGo (d : Nat) {I : PIm} {P : Int → Int} {n k : Nat} {x lag fw : Int} (M : MAt Γ R) (hP : ProgM I P n) (hk : k < n) (hx : 0 ≤ x ∧ x ≤ 1000) (hl : I 116 26 = lag) (hlr : Rg lag) (hS : ∀ j : Int, 0 ≤ j → j < k → 0 ≤ I 138 j ∧ I 138 j ≤ 1000) : PC sc mX11_mayGo (d + 4) 0 0 [.inr (some 112), .inl (k : Int), .inl x, .inl fw] Γ I R (px (some (.inl (bi (rdy P (I 138) lag fw k x)))) Γ I R) := by
  obtain ⟨p1, p2, p3⟩ := id hP
  obtain ⟨q0, q1, q2, q3, q4⟩ := p3 k (by omega) (by omega)
  have e1 := kd_rg q0
  have e2 := ss_rg (P k)
  have e3 := tt_rg (P k)
  have g112 := M.1
  refine PC.ofPW (by decide) (Nat.le_of_ble_eq_true rfl) ?_
  refine PW.aload_n (pc := 0) dX11_mayGo_0 rfl ?_
  refine PW.iload_n (pc := 1) dX11_mayGo_1 rfl ?_
  refine PW.iconst (pc := 2) dX11_mayGo_2 ?_
  refine PW.invV0x (pc := 3) dX11_mayGo_3 mv_X11_189 (c_X11_its _ M (by omega) (by omega)) M.g112 rfl rfl (Nat.le_of_ble_eq_true rfl) ?_
  rw [q1]
  refine PW.istore (pc := 6) dX11_mayGo_6 (by decide) ?_
  refine PW.iload (pc := 8) dX11_mayGo_8 rfl ?_
  refine PW.iconst (pc := 10) dX11_mayGo_10 ?_
  refine PW.icmp_lt (pc := 11) (tgt := 30) dX11_mayGo_11 (by decide) (by first | omega | exact rg_of _) (by first | omega | exact rg_of _) (fun c_11 => ?_) (fun c_11 => ?_)
  · refine PW.iload (pc := 30) dX11_mayGo_30 rfl ?_
    refine PW.iconst (pc := 32) dX11_mayGo_32 ?_
    refine PW.icmp_lt (pc := 33) (tgt := 52) dX11_mayGo_33 (by decide) (by first | omega | exact rg_of _) (by first | omega | exact rg_of _) (fun c_33 => ?_) (fun c_33 => ?_)
    · refine PW.iconst (pc := 52) dX11_mayGo_52 ?_
      refine PW.goto (pc := 53) (tgt := 57) dX11_mayGo_53 (by decide) ?_
      exact PW.zreturn (pc := 57) dX11_mayGo_57 rfl (by first | exact Or.inl rfl | exact Or.inr rfl | omega) (by first | exact pxb_pos ⟨Or.inl (by omega), Or.inl (by omega)⟩ | exact pxb_pos ⟨Or.inr (bi1 c_27), Or.inl (by omega)⟩ | exact pxb_pos ⟨Or.inr (bi1 c_27), Or.inr (bi1 c_49)⟩ | exact pxb_neg (fun o => o.1.elim (fun o => by omega) (bi0 c_27)) | exact pxb_neg (fun o => o.2.elim (fun o => by omega) (bi0 c_49)))
    · refine PW.aload_n (pc := 36) dX11_mayGo_36 rfl ?_
      refine PW.iload_n (pc := 37) dX11_mayGo_37 rfl ?_
      refine PW.iload_n (pc := 38) dX11_mayGo_38 rfl ?_
      refine PW.aload_n (pc := 39) dX11_mayGo_39 rfl ?_
      refine PW.iload_n (pc := 40) dX11_mayGo_40 rfl ?_
      refine PW.iconst (pc := 41) dX11_mayGo_41 ?_
      refine PW.invV0x (pc := 42) dX11_mayGo_42 mv_X11_189 (c_X11_its _ M (by omega) (by omega)) M.g112 rfl rfl (Nat.le_of_ble_eq_true rfl) ?_
      rw [q4]
      refine PW.iload_n (pc := 45) dX11_mayGo_45 rfl ?_
      refine PW.invV0x (pc := 46) dX11_mayGo_46 mv_X11_202 (c_X11_hasIt _ M hP (by omega) (by omega) hx hl hlr hS) M.g112 rfl rfl (Nat.le_of_ble_eq_true rfl) ?_
      refine PW.if_eq (pc := 49) (tgt := 56) dX11_mayGo_49 (by decide) (rg_bi _) (fun c_49 => ?_) (fun c_49 => ?_)
      · refine PW.iconst (pc := 56) dX11_mayGo_56 ?_
        exact PW.zreturn (pc := 57) dX11_mayGo_57 rfl (by first | exact Or.inl rfl | exact Or.inr rfl | omega) (by first | exact pxb_pos ⟨Or.inl (by omega), Or.inl (by omega)⟩ | exact pxb_pos ⟨Or.inr (bi1 c_27), Or.inl (by omega)⟩ | exact pxb_pos ⟨Or.inr (bi1 c_27), Or.inr (bi1 c_49)⟩ | exact pxb_neg (fun o => o.1.elim (fun o => by omega) (bi0 c_27)) | exact pxb_neg (fun o => o.2.elim (fun o => by omega) (bi0 c_49)))
      · refine PW.iconst (pc := 52) dX11_mayGo_52 ?_
        refine PW.goto (pc := 53) (tgt := 57) dX11_mayGo_53 (by decide) ?_
        exact PW.zreturn (pc := 57) dX11_mayGo_57 rfl (by first | exact Or.inl rfl | exact Or.inr rfl | omega) (by first | exact pxb_pos ⟨Or.inl (by omega), Or.inl (by omega)⟩ | exact pxb_pos ⟨Or.inr (bi1 c_27), Or.inl (by omega)⟩ | exact pxb_pos ⟨Or.inr (bi1 c_27), Or.inr (bi1 c_49)⟩ | exact pxb_neg (fun o => o.1.elim (fun o => by omega) (bi0 c_27)) | exact pxb_neg (fun o => o.2.elim (fun o => by omega) (bi0 c_49)))
  · refine PW.aload_n (pc := 14) dX11_mayGo_14 rfl ?_
    refine PW.iload_n (pc := 15) dX11_mayGo_15 rfl ?_
    refine PW.iload_n (pc := 16) dX11_mayGo_16 rfl ?_
    refine PW.aload_n (pc := 17) dX11_mayGo_17 rfl ?_
    refine PW.iload_n (pc := 18) dX11_mayGo_18 rfl ?_
    refine PW.iconst (pc := 19) dX11_mayGo_19 ?_
    refine PW.invV0x (pc := 20) dX11_mayGo_20 mv_X11_189 (c_X11_its _ M (by omega) (by omega)) M.g112 rfl rfl (Nat.le_of_ble_eq_true rfl) ?_
    rw [q3]
    refine PW.iload_n (pc := 23) dX11_mayGo_23 rfl ?_
    refine PW.invV0x (pc := 24) dX11_mayGo_24 mv_X11_202 (c_X11_hasIt _ M hP (by omega) (by omega) hx hl hlr hS) M.g112 rfl rfl (Nat.le_of_ble_eq_true rfl) ?_
    refine PW.if_eq (pc := 27) (tgt := 56) dX11_mayGo_27 (by decide) (rg_bi _) (fun c_27 => ?_) (fun c_27 => ?_)
    · refine PW.iconst (pc := 56) dX11_mayGo_56 ?_
      exact PW.zreturn (pc := 57) dX11_mayGo_57 rfl (by first | exact Or.inl rfl | exact Or.inr rfl | omega) (by first | exact pxb_pos ⟨Or.inl (by omega), Or.inl (by omega)⟩ | exact pxb_pos ⟨Or.inr (bi1 c_27), Or.inl (by omega)⟩ | exact pxb_pos ⟨Or.inr (bi1 c_27), Or.inr (bi1 c_49)⟩ | exact pxb_neg (fun o => o.1.elim (fun o => by omega) (bi0 c_27)) | exact pxb_neg (fun o => o.2.elim (fun o => by omega) (bi0 c_49)))
    · refine PW.iload (pc := 30) dX11_mayGo_30 rfl ?_
      refine PW.iconst (pc := 32) dX11_mayGo_32 ?_
      refine PW.icmp_lt (pc := 33) (tgt := 52) dX11_mayGo_33 (by decide) (by first | omega | exact rg_of _) (by first | omega | exact rg_of _) (fun c_33 => ?_) (fun c_33 => ?_)
      · refine PW.iconst (pc := 52) dX11_mayGo_52 ?_
        refine PW.goto (pc := 53) (tgt := 57) dX11_mayGo_53 (by decide) ?_
        exact PW.zreturn (pc := 57) dX11_mayGo_57 rfl (by first | exact Or.inl rfl | exact Or.inr rfl | omega) (by first | exact pxb_pos ⟨Or.inl (by omega), Or.inl (by omega)⟩ | exact pxb_pos ⟨Or.inr (bi1 c_27), Or.inl (by omega)⟩ | exact pxb_pos ⟨Or.inr (bi1 c_27), Or.inr (bi1 c_49)⟩ | exact pxb_neg (fun o => o.1.elim (fun o => by omega) (bi0 c_27)) | exact pxb_neg (fun o => o.2.elim (fun o => by omega) (bi0 c_49)))
      · refine PW.aload_n (pc := 36) dX11_mayGo_36 rfl ?_
        refine PW.iload_n (pc := 37) dX11_mayGo_37 rfl ?_
        refine PW.iload_n (pc := 38) dX11_mayGo_38 rfl ?_
        refine PW.aload_n (pc := 39) dX11_mayGo_39 rfl ?_
        refine PW.iload_n (pc := 40) dX11_mayGo_40 rfl ?_
        refine PW.iconst (pc := 41) dX11_mayGo_41 ?_
        refine PW.invV0x (pc := 42) dX11_mayGo_42 mv_X11_189 (c_X11_its _ M (by omega) (by omega)) M.g112 rfl rfl (Nat.le_of_ble_eq_true rfl) ?_
        rw [q4]
        refine PW.iload_n (pc := 45) dX11_mayGo_45 rfl ?_
        refine PW.invV0x (pc := 46) dX11_mayGo_46 mv_X11_202 (c_X11_hasIt _ M hP (by omega) (by omega) hx hl hlr hS) M.g112 rfl rfl (Nat.le_of_ble_eq_true rfl) ?_
        refine PW.if_eq (pc := 49) (tgt := 56) dX11_mayGo_49 (by decide) (rg_bi _) (fun c_49 => ?_) (fun c_49 => ?_)
        · refine PW.iconst (pc := 56) dX11_mayGo_56 ?_
          exact PW.zreturn (pc := 57) dX11_mayGo_57 rfl (by first | exact Or.inl rfl | exact Or.inr rfl | omega) (by first | exact pxb_pos ⟨Or.inl (by omega), Or.inl (by omega)⟩ | exact pxb_pos ⟨Or.inr (bi1 c_27), Or.inl (by omega)⟩ | exact pxb_pos ⟨Or.inr (bi1 c_27), Or.inr (bi1 c_49)⟩ | exact pxb_neg (fun o => o.1.elim (fun o => by omega) (bi0 c_27)) | exact pxb_neg (fun o => o.2.elim (fun o => by omega) (bi0 c_49)))
        · refine PW.iconst (pc := 52) dX11_mayGo_52 ?_
          refine PW.goto (pc := 53) (tgt := 57) dX11_mayGo_53 (by decide) ?_
          exact PW.zreturn (pc := 57) dX11_mayGo_57 rfl (by first | exact Or.inl rfl | exact Or.inr rfl | omega) (by first | exact pxb_pos ⟨Or.inl (by omega), Or.inl (by omega)⟩ | exact pxb_pos ⟨Or.inr (bi1 c_27), Or.inl (by omega)⟩ | exact pxb_pos ⟨Or.inr (bi1 c_27), Or.inr (bi1 c_49)⟩ | exact pxb_neg (fun o => o.1.elim (fun o => by omega) (bi0 c_27)) | exact pxb_neg (fun o => o.2.elim (fun o => by omega) (bi0 c_49)))
end MODEL
