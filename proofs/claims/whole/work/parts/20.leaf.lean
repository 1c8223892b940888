section LEAF
variable {sc : PSc} {Γ : List PTy} {I : PIm} {R : PRm}
/-! the JDK's -/
set_option maxRecDepth 100000 in
set_option maxHeartbeats 4000000 in
theorem rg_max (x y : Int) (hx : Rg x) (hy : Rg y) : (if Int32.ofInt x < Int32.ofInt y then Int32.ofInt y else Int32.ofInt x) = Int32.ofInt (max x y) := by
  by_cases h : x < y
  · rw [if_pos ((rg_lt hx hy).mpr h), Int.max_eq_right (by omega)]
  · rw [if_neg (fun q => h ((rg_lt hx hy).mp q)), Int.max_eq_left (by omega)]
set_option maxRecDepth 100000 in
set_option maxHeartbeats 4000000 in
theorem rg_min (x y : Int) (hx : Rg x) (hy : Rg y) : (if Int32.ofInt y < Int32.ofInt x then Int32.ofInt y else Int32.ofInt x) = Int32.ofInt (min x y) := by
  by_cases h : y < x
  · rw [if_pos ((rg_lt hy hx).mpr h), Int.min_eq_right (by omega)]
  · rw [if_neg (fun q => h ((rg_lt hy hx).mp q)), Int.min_eq_left (by omega)]
set_option maxRecDepth 100000 in
set_option maxHeartbeats 4000000 in
theorem PW.mmax {μ : PMI} {d kc ks : Nat} {post : PPost} {pc : Nat} {L : List (Option PV)} {st : List PV} {idx : Nat} {x y : Int} (hd : decode μ.2.1 pc = .ok (.invokestatic idx, 3)) (hw : Cond.methodLink μ.1.cls idx Lib.Math.max.name ∈ pw_gw ∧ Cond.static Lib.Math.max.name ∈ pw_gw ∧ Cond.initialized "java/lang/Math" ∈ pw_gw ∧ Cond.code Lib.Math.max.name Lib.Math.max.code 2 (some .int) ∈ pw_gw) (hx : Rg x) (hy : Rg y) (hr : st.length ≤ 8) (k : PW sc μ d kc ks post (pc + 3) L (.inl (max x y) :: st) Γ I R) : PW sc μ d kc ks post pc L (.inl y :: .inl x :: st) Γ I R := by
  intro w p l e RM s m args below meth c Q C fin H locs cells slots ls hR hS h1 h2 hl
  have hts := C.2.2.2.2.1
  have hf := C.2.2.2.2.2.2.1
  have K := k w p l e RM s m args below meth c Q C fin H locs cells slots ls hR hS h1 h2 hl
  rw [List.map_cons, show pw_tv w (.inl (max x y)) = .int (Int32.ofInt (max x y)) from rfl, ← rg_max x y hx hy] at K
  exact va_mmax C.1 C.2.1 (C.2.2.1.trans hl.2.1.symm) C.2.2.2.1 (hts _ hw.1) (hts _ hw.2.1) (hts _ hw.2.2.1) (hts _ hw.2.2.2) (by omega) (by rw [pw_cats]; omega) (by omega) (by omega) hd K
set_option maxRecDepth 100000 in
set_option maxHeartbeats 4000000 in
theorem PW.mmin {μ : PMI} {d kc ks : Nat} {post : PPost} {pc : Nat} {L : List (Option PV)} {st : List PV} {idx : Nat} {x y : Int} (hd : decode μ.2.1 pc = .ok (.invokestatic idx, 3)) (hw : Cond.methodLink μ.1.cls idx Lib.Math.min.name ∈ pw_gw ∧ Cond.static Lib.Math.min.name ∈ pw_gw ∧ Cond.initialized "java/lang/Math" ∈ pw_gw ∧ Cond.code Lib.Math.min.name Lib.Math.min.code 2 (some .int) ∈ pw_gw) (hx : Rg x) (hy : Rg y) (hr : st.length ≤ 8) (k : PW sc μ d kc ks post (pc + 3) L (.inl (min x y) :: st) Γ I R) : PW sc μ d kc ks post pc L (.inl y :: .inl x :: st) Γ I R := by
  intro w p l e RM s m args below meth c Q C fin H locs cells slots ls hR hS h1 h2 hl
  have hts := C.2.2.2.2.1
  have hf := C.2.2.2.2.2.2.1
  have K := k w p l e RM s m args below meth c Q C fin H locs cells slots ls hR hS h1 h2 hl
  rw [List.map_cons, show pw_tv w (.inl (min x y)) = .int (Int32.ofInt (min x y)) from rfl, ← rg_min x y hx hy] at K
  exact va_mmin C.1 C.2.1 (C.2.2.1.trans hl.2.1.symm) C.2.2.2.1 (hts _ hw.1) (hts _ hw.2.1) (hts _ hw.2.2.1) (hts _ hw.2.2.2) (by omega) (by rw [pw_cats]; omega) (by omega) (by omega) hd K
set_option maxRecDepth 100000 in
set_option maxHeartbeats 4000000 in
theorem mm_X8_9 : Cond.methodLink RX8 9 Lib.Math.max.name ∈ pw_gw ∧ Cond.static Lib.Math.max.name ∈ pw_gw ∧ Cond.initialized "java/lang/Math" ∈ pw_gw ∧ Cond.code Lib.Math.max.name Lib.Math.max.code 2 (some .int) ∈ pw_gw := ⟨(pw_mem 243 (by decide +kernel) rfl), (pw_mem 244 (by decide +kernel) rfl), (pw_mem 69 (by decide +kernel) rfl), (pw_mem 245 (by decide +kernel) rfl)⟩
set_option maxRecDepth 100000 in
set_option maxHeartbeats 4000000 in
theorem mm_X1_33 : Cond.methodLink RX1 33 Lib.Math.min.name ∈ pw_gw ∧ Cond.static Lib.Math.min.name ∈ pw_gw ∧ Cond.initialized "java/lang/Math" ∈ pw_gw ∧ Cond.code Lib.Math.min.name Lib.Math.min.code 2 (some .int) ∈ pw_gw := ⟨(pw_mem 582 (by decide +kernel) rfl), (pw_mem 583 (by decide +kernel) rfl), (pw_mem 69 (by decide +kernel) rfl), (pw_mem 584 (by decide +kernel) rfl)⟩
set_option maxRecDepth 100000 in
set_option maxHeartbeats 4000000 in
theorem bi0 {p : Prop} [Decidable p] (h : bi p = 0) : ¬ p := fun q => by rw [bi_pos q] at h; exact absurd h (by decide)
set_option maxRecDepth 100000 in
set_option maxHeartbeats 4000000 in
theorem bi1 {p : Prop} [Decidable p] (h : ¬ bi p = 0) : p := Classical.byContradiction fun q => h (bi_neg q)
set_option maxRecDepth 100000 in
set_option maxHeartbeats 4000000 in
theorem rg_bi (p : Prop) [Decidable p] : Rg (bi p) := by rcases bi_01 p with h | h <;> rw [h] <;> decide
/-! Pipe: 0 lag, 1 forwards, 2 waits -/
abbrev vis (lag fw x : Int) : Prop := lag < x ∨ (1 ≤ x ∧ x ≤ 3 ∧ pw_and (pw_shr fw (x - 1)) 1 = 1)
def visb (lag fw x : Int) : Int := bi (lag < x ∨ (1 ≤ x ∧ x ≤ 3 ∧ pw_and (pw_shr fw (x - 1)) 1 = 1))
set_option maxRecDepth 100000 in
set_option maxHeartbeats 4000000 in
theorem visb_1 {lag fw x : Int} : visb lag fw x = 1 ↔ vis lag fw x := by
  unfold visb vis bi
  split <;> simp_all
set_option maxRecDepth 100000 in
set_option maxHeartbeats 4000000 in
theorem visb_0 {lag fw x : Int} : visb lag fw x = 0 ↔ ¬ vis lag fw x := by
  unfold visb vis bi
  split <;> simp_all
set_option maxRecDepth 100000 in
set_option maxHeartbeats 4000000 in
theorem visb_01 (lag fw x : Int) : visb lag fw x = 0 ∨ visb lag fw x = 1 := bi_01 _
set_option maxRecDepth 100000 in
set_option maxHeartbeats 4000000 in
theorem c_X4_set (d : Nat) {h : Nat} {a b c : Int} (hh : Γ[h]? = some (.inl 4)) : PC sc mX4_set d 0 0 [.inr (some h), .inl a, .inl b, .inl c] Γ I R (px none Γ (pw_up (pw_up (pw_up I h 0 a) h 1 b) h 2 c) R) := by
  refine PC.ofPW (by decide) (Nat.le_of_ble_eq_true rfl) ?_
  refine PW.aload_n (pc := 0) dX4_set_0 rfl ?_
  refine PW.iload_n (pc := 1) dX4_set_1 rfl ?_
  refine PW.puti (pc := 2) dX4_set_2 fl_X4_18 (by first | assumption | rfl) ?_
  refine PW.aload_n (pc := 5) dX4_set_5 rfl ?_
  refine PW.iload_n (pc := 6) dX4_set_6 rfl ?_
  refine PW.puti (pc := 7) dX4_set_7 fl_X4_22 (by first | assumption | rfl) ?_
  refine PW.aload_n (pc := 10) dX4_set_10 rfl ?_
  refine PW.iload_n (pc := 11) dX4_set_11 rfl ?_
  refine PW.puti (pc := 12) dX4_set_12 fl_X4_25 (by first | assumption | rfl) ?_
  exact PW.vreturn (pc := 15) dX4_set_15 rfl (px_rfl)
set_option maxRecDepth 100000 in
set_option maxHeartbeats 4000000 in
theorem c_X4_setFirst (d : Nat) {h : Nat} (hh : Γ[h]? = some (.inl 4)) : PC sc mX4_setFirst (d + 1) 0 0 [.inr (some h)] Γ I R (px none Γ (pw_up (pw_up (pw_up I h 0 2) h 1 0) h 2 0) R) := by
  refine PC.ofPW (by decide) (Nat.le_of_ble_eq_true rfl) ?_
  refine PW.aload_n (pc := 0) dX4_setFirst_0 rfl ?_
  refine PW.iconst (pc := 1) dX4_setFirst_1 ?_
  refine PW.iconst (pc := 2) dX4_setFirst_2 ?_
  refine PW.iconst (pc := 3) dX4_setFirst_3 ?_
  refine PW.invV0x (pc := 4) dX4_setFirst_4 mv_X4_14 (c_X4_set d hh) (by first | assumption | rfl) rfl rfl (Nat.le_of_ble_eq_true rfl) ?_
  exact PW.vreturn (pc := 7) dX4_setFirst_7 rfl (px_rfl)
set_option maxRecDepth 100000 in
set_option maxHeartbeats 4000000 in
theorem c_X4_copyFrom (d : Nat) {h o : Nat} (hh : Γ[h]? = some (.inl 4)) (ho : Γ[o]? = some (.inl 4)) : PC sc mX4_copyFrom (d + 1) 0 0 [.inr (some h), .inr (some o)] Γ I R (px none Γ (pw_up (pw_up (pw_up I h 0 (I o 0)) h 1 (I o 1)) h 2 (I o 2)) R) := by
  refine PC.ofPW (by decide) (Nat.le_of_ble_eq_true rfl) ?_
  refine PW.aload_n (pc := 0) dX4_copyFrom_0 rfl ?_
  refine PW.aload_n (pc := 1) dX4_copyFrom_1 rfl ?_
  refine PW.geti (pc := 2) dX4_copyFrom_2 fl_X4_18 (by decide) (by first | assumption | rfl) ?_
  refine PW.aload_n (pc := 5) dX4_copyFrom_5 rfl ?_
  refine PW.geti (pc := 6) dX4_copyFrom_6 fl_X4_22 (by decide) (by first | assumption | rfl) ?_
  refine PW.aload_n (pc := 9) dX4_copyFrom_9 rfl ?_
  refine PW.geti (pc := 10) dX4_copyFrom_10 fl_X4_25 (by decide) (by first | assumption | rfl) ?_
  refine PW.invV0x (pc := 13) dX4_copyFrom_13 mv_X4_14 (c_X4_set d hh) (by first | assumption | rfl) rfl rfl (Nat.le_of_ble_eq_true rfl) ?_
  exact PW.vreturn (pc := 16) dX4_copyFrom_16 rfl (px_rfl)
set_option maxRecDepth 100000 in
set_option maxHeartbeats 4000000 in
theorem c_X4_is (d : Nat) {h : Nat} {a b c : Int} (hh : Γ[h]? = some (.inl 4)) (ha : Rg a) (hb : Rg b) (hc : Rg c) (h0 : Rg (I h 0)) (h1 : Rg (I h 1)) (h2 : Rg (I h 2)) : PC sc mX4_is d 0 0 [.inr (some h), .inl a, .inl b, .inl c] Γ I R (px (some (.inl (bi (I h 0 = a ∧ I h 1 = b ∧ I h 2 = c)))) Γ I R) := by
  refine PC.ofPW (by decide) (Nat.le_of_ble_eq_true rfl) ?_
  refine PW.aload_n (pc := 0) dX4_is_0 rfl ?_
  refine PW.geti (pc := 1) dX4_is_1 fl_X4_18 (by decide) (by first | assumption | rfl) ?_
  refine PW.iload_n (pc := 4) dX4_is_4 rfl ?_
  refine PW.icmp_ne (pc := 5) (tgt := 28) dX4_is_5 (by decide) (by first | omega | exact rg_of _) (by first | omega | exact rg_of _) (fun c_5 => ?_) (fun c_5 => ?_)
  · refine PW.iconst (pc := 28) dX4_is_28 ?_
    exact PW.zreturn (pc := 29) dX4_is_29 rfl (by first | exact Or.inl rfl | exact Or.inr rfl | omega) (by first | (rw [bi_pos (by omega)]; exact px_rfl) | (rw [bi_neg (by omega)]; exact px_rfl))
  · refine PW.aload_n (pc := 8) dX4_is_8 rfl ?_
    refine PW.geti (pc := 9) dX4_is_9 fl_X4_22 (by decide) (by first | assumption | rfl) ?_
    refine PW.iload_n (pc := 12) dX4_is_12 rfl ?_
    refine PW.icmp_ne (pc := 13) (tgt := 28) dX4_is_13 (by decide) (by first | omega | exact rg_of _) (by first | omega | exact rg_of _) (fun c_13 => ?_) (fun c_13 => ?_)
    · refine PW.iconst (pc := 28) dX4_is_28 ?_
      exact PW.zreturn (pc := 29) dX4_is_29 rfl (by first | exact Or.inl rfl | exact Or.inr rfl | omega) (by first | (rw [bi_pos (by omega)]; exact px_rfl) | (rw [bi_neg (by omega)]; exact px_rfl))
    · refine PW.aload_n (pc := 16) dX4_is_16 rfl ?_
      refine PW.geti (pc := 17) dX4_is_17 fl_X4_25 (by decide) (by first | assumption | rfl) ?_
      refine PW.iload_n (pc := 20) dX4_is_20 rfl ?_
      refine PW.icmp_ne (pc := 21) (tgt := 28) dX4_is_21 (by decide) (by first | omega | exact rg_of _) (by first | omega | exact rg_of _) (fun c_21 => ?_) (fun c_21 => ?_)
      · refine PW.iconst (pc := 28) dX4_is_28 ?_
        exact PW.zreturn (pc := 29) dX4_is_29 rfl (by first | exact Or.inl rfl | exact Or.inr rfl | omega) (by first | (rw [bi_pos (by omega)]; exact px_rfl) | (rw [bi_neg (by omega)]; exact px_rfl))
      · refine PW.iconst (pc := 24) dX4_is_24 ?_
        refine PW.goto (pc := 25) (tgt := 29) dX4_is_25 (by decide) ?_
        exact PW.zreturn (pc := 29) dX4_is_29 rfl (by first | exact Or.inl rfl | exact Or.inr rfl | omega) (by first | (rw [bi_pos (by omega)]; exact px_rfl) | (rw [bi_neg (by omega)]; exact px_rfl))
set_option maxRecDepth 100000 in
set_option maxHeartbeats 4000000 in
theorem c_X4_shows (d : Nat) {h : Nat} {x : Int} (hh : Γ[h]? = some (.inl 4)) (hx : Rg x) (h0 : Rg (I h 0)) : PC sc mX4_shows d 0 0 [.inr (some h), .inl x] Γ I R (px (some (.inl (visb (I h 0) (I h 1) x))) Γ I R) := by
  refine PC.ofPW (by decide) (Nat.le_of_ble_eq_true rfl) ?_
  unfold visb
  refine PW.iload_n (pc := 0) dX4_shows_0 rfl ?_
  refine PW.aload_n (pc := 1) dX4_shows_1 rfl ?_
  refine PW.geti (pc := 2) dX4_shows_2 fl_X4_18 (by decide) (by first | assumption | rfl) ?_
  refine PW.icmp_gt (pc := 5) (tgt := 32) dX4_shows_5 (by decide) (by first | omega | exact rg_of _) (by first | omega | exact rg_of _) (fun c_5 => ?_) (fun c_5 => ?_)
  · refine PW.iconst (pc := 32) dX4_shows_32 ?_
    refine PW.goto (pc := 33) (tgt := 37) dX4_shows_33 (by decide) ?_
    exact PW.zreturn (pc := 37) dX4_shows_37 rfl (by first | exact Or.inl rfl | exact Or.inr rfl | omega) (by first | (rw [bi_pos (by omega)]; exact px_rfl) | (rw [bi_neg (by omega)]; exact px_rfl))
  · refine PW.iload_n (pc := 8) dX4_shows_8 rfl ?_
    refine PW.iconst (pc := 9) dX4_shows_9 ?_
    refine PW.icmp_lt (pc := 10) (tgt := 36) dX4_shows_10 (by decide) (by first | omega | exact rg_of _) (by first | omega | exact rg_of _) (fun c_10 => ?_) (fun c_10 => ?_)
    · refine PW.iconst (pc := 36) dX4_shows_36 ?_
      exact PW.zreturn (pc := 37) dX4_shows_37 rfl (by first | exact Or.inl rfl | exact Or.inr rfl | omega) (by first | (rw [bi_pos (by omega)]; exact px_rfl) | (rw [bi_neg (by omega)]; exact px_rfl))
    · refine PW.iload_n (pc := 13) dX4_shows_13 rfl ?_
      refine PW.iconst (pc := 14) dX4_shows_14 ?_
      refine PW.icmp_gt (pc := 15) (tgt := 36) dX4_shows_15 (by decide) (by first | omega | exact rg_of _) (by first | omega | exact rg_of _) (fun c_15 => ?_) (fun c_15 => ?_)
      · refine PW.iconst (pc := 36) dX4_shows_36 ?_
        exact PW.zreturn (pc := 37) dX4_shows_37 rfl (by first | exact Or.inl rfl | exact Or.inr rfl | omega) (by first | (rw [bi_pos (by omega)]; exact px_rfl) | (rw [bi_neg (by omega)]; exact px_rfl))
      · refine PW.aload_n (pc := 18) dX4_shows_18 rfl ?_
        refine PW.geti (pc := 19) dX4_shows_19 fl_X4_22 (by decide) (by first | assumption | rfl) ?_
        refine PW.iload_n (pc := 22) dX4_shows_22 rfl ?_
        refine PW.iconst (pc := 23) dX4_shows_23 ?_
        refine PW.isub (pc := 24) dX4_shows_24 ?_
        refine PW.ishr (pc := 25) dX4_shows_25 ?_
        refine PW.iconst (pc := 26) dX4_shows_26 ?_
        refine PW.iand (pc := 27) dX4_shows_27 ?_
        refine PW.iconst (pc := 28) dX4_shows_28 ?_
        refine PW.icmp_ne (pc := 29) (tgt := 36) dX4_shows_29 (by decide) (by first | omega | exact rg_of _) (by first | omega | exact rg_of _) (fun c_29 => ?_) (fun c_29 => ?_)
        · refine PW.iconst (pc := 36) dX4_shows_36 ?_
          exact PW.zreturn (pc := 37) dX4_shows_37 rfl (by first | exact Or.inl rfl | exact Or.inr rfl | omega) (by first | (rw [bi_pos (by omega)]; exact px_rfl) | (rw [bi_neg (by omega)]; exact px_rfl))
        · refine PW.iconst (pc := 32) dX4_shows_32 ?_
          refine PW.goto (pc := 33) (tgt := 37) dX4_shows_33 (by decide) ?_
          exact PW.zreturn (pc := 37) dX4_shows_37 rfl (by first | exact Or.inl rfl | exact Or.inr rfl | omega) (by first | (rw [bi_pos (by omega)]; exact px_rfl) | (rw [bi_neg (by omega)]; exact px_rfl))
def hides (lag fw w : Int) : Prop := w = 1 ∨ pw_and fw (pw_shl 1 lag - 1) = pw_shl 1 lag - 1
set_option maxRecDepth 100000 in
set_option maxHeartbeats 4000000 in
theorem c_X4_hidesNothing (d : Nat) {h : Nat} (hh : Γ[h]? = some (.inl 4)) (h2 : Rg (I h 2)) (hl : Rg (pw_shl 1 (I h 0) - 1)) : PC sc mX4_hidesNothing d 0 0 [.inr (some h)] Γ I R (px (some (.inl (bi (I h 2 = 1 ∨ pw_and (I h 1) (pw_shl 1 (I h 0) - 1) = pw_shl 1 (I h 0) - 1)))) Γ I R) := by
  refine PC.ofPW (by decide) (Nat.le_of_ble_eq_true rfl) ?_
  refine PW.iconst (pc := 0) dX4_hidesNothing_0 ?_
  refine PW.aload_n (pc := 1) dX4_hidesNothing_1 rfl ?_
  refine PW.geti (pc := 2) dX4_hidesNothing_2 fl_X4_18 (by decide) (by first | assumption | rfl) ?_
  refine PW.ishl (pc := 5) dX4_hidesNothing_5 ?_
  refine PW.iconst (pc := 6) dX4_hidesNothing_6 ?_
  refine PW.isub (pc := 7) dX4_hidesNothing_7 ?_
  refine PW.istore_n (pc := 8) dX4_hidesNothing_8 (by decide) ?_
  refine PW.aload_n (pc := 9) dX4_hidesNothing_9 rfl ?_
  refine PW.geti (pc := 10) dX4_hidesNothing_10 fl_X4_25 (by decide) (by first | assumption | rfl) ?_
  refine PW.iconst (pc := 13) dX4_hidesNothing_13 ?_
  refine PW.icmp_eq (pc := 14) (tgt := 27) dX4_hidesNothing_14 (by decide) (by first | omega | exact rg_of _) (by first | omega | exact rg_of _) (fun c_14 => ?_) (fun c_14 => ?_)
  · refine PW.iconst (pc := 27) dX4_hidesNothing_27 ?_
    refine PW.goto (pc := 28) (tgt := 32) dX4_hidesNothing_28 (by decide) ?_
    exact PW.zreturn (pc := 32) dX4_hidesNothing_32 rfl (by first | exact Or.inl rfl | exact Or.inr rfl | omega) (by first | (rw [bi_pos (by omega)]; exact px_rfl) | (rw [bi_neg (by omega)]; exact px_rfl))
  · refine PW.aload_n (pc := 17) dX4_hidesNothing_17 rfl ?_
    refine PW.geti (pc := 18) dX4_hidesNothing_18 fl_X4_22 (by decide) (by first | assumption | rfl) ?_
    refine PW.iload_n (pc := 21) dX4_hidesNothing_21 rfl ?_
    refine PW.iand (pc := 22) dX4_hidesNothing_22 ?_
    refine PW.iload_n (pc := 23) dX4_hidesNothing_23 rfl ?_
    refine PW.icmp_ne (pc := 24) (tgt := 31) dX4_hidesNothing_24 (by decide) (by first | omega | exact rg_of _) (by first | omega | exact rg_of _) (fun c_24 => ?_) (fun c_24 => ?_)
    · refine PW.iconst (pc := 31) dX4_hidesNothing_31 ?_
      exact PW.zreturn (pc := 32) dX4_hidesNothing_32 rfl (by first | exact Or.inl rfl | exact Or.inr rfl | omega) (by first | (rw [bi_pos (by omega)]; exact px_rfl) | (rw [bi_neg (by omega)]; exact px_rfl))
    · refine PW.iconst (pc := 27) dX4_hidesNothing_27 ?_
      refine PW.goto (pc := 28) (tgt := 32) dX4_hidesNothing_28 (by decide) ?_
      exact PW.zreturn (pc := 32) dX4_hidesNothing_32 rfl (by first | exact Or.inl rfl | exact Or.inr rfl | omega) (by first | (rw [bi_pos (by omega)]; exact px_rfl) | (rw [bi_neg (by omega)]; exact px_rfl))
/-! Program: 0 codes, 1 size -/
def ProgAt (Γ : List PTy) (R : PRm) (h : Nat) : Prop := Γ[h]? = some (.inl 5) ∧ R h 0 = some (h + 1) ∧ Γ[h + 1]? = some (.inr (0, 6))
set_option maxRecDepth 100000 in
set_option maxHeartbeats 4000000 in
theorem c_X5_forgetAll (d : Nat) {h : Nat} (hh : Γ[h]? = some (.inl 5)) : PC sc mX5_forgetAll d 0 0 [.inr (some h)] Γ I R (px none Γ (pw_up I h 1 0) R) := by
  refine PC.ofPW (by decide) (Nat.le_of_ble_eq_true rfl) ?_
  refine PW.aload_n (pc := 0) dX5_forgetAll_0 rfl ?_
  refine PW.iconst (pc := 1) dX5_forgetAll_1 ?_
  refine PW.puti (pc := 2) dX5_forgetAll_2 fl_X5_15 (by first | assumption | rfl) ?_
  exact PW.vreturn (pc := 5) dX5_forgetAll_5 rfl (px_rfl)
set_option maxRecDepth 100000 in
set_option maxHeartbeats 4000000 in
theorem c_X5_copyFrom (d : Nat) {h o : Nat} (hh : ProgAt Γ R h) (ho : ProgAt Γ R o) : PC sc mX5_copyFrom d 0 0 [.inr (some h), .inr (some o)] Γ I R (px none Γ (pw_up (pw_cp I (o + 1) (h + 1) 6) h 1 (pw_cp I (o + 1) (h + 1) 6 o 1)) R) := by
  obtain ⟨h1, h2, h3⟩ := hh
  obtain ⟨o1, o2, o3⟩ := ho
  refine PC.ofPW (by decide) (Nat.le_of_ble_eq_true rfl) ?_
  refine PW.aload_n (pc := 0) dX5_copyFrom_0 rfl ?_
  refine PW.getr (pc := 1) dX5_copyFrom_1 fl_X5_9 (by first | assumption | rfl) (by first | assumption | rfl) ?_
  refine PW.iconst (pc := 4) dX5_copyFrom_4 ?_
  refine PW.aload_n (pc := 5) dX5_copyFrom_5 rfl ?_
  refine PW.getr (pc := 6) dX5_copyFrom_6 fl_X5_9 (by first | assumption | rfl) (by first | assumption | rfl) ?_
  refine PW.iconst (pc := 9) dX5_copyFrom_9 ?_
  refine PW.bipush (pc := 10) dX5_copyFrom_10 (by decide) ?_
  refine PW.copy (pc := 12) dX5_copyFrom_12 ac_X5_19 (by first | assumption | rfl) (by first | assumption | rfl) (by decide) (by decide) (by decide) (by decide) rfl ?_
  refine PW.aload_n (pc := 15) dX5_copyFrom_15 rfl ?_
  refine PW.aload_n (pc := 16) dX5_copyFrom_16 rfl ?_
  refine PW.geti (pc := 17) dX5_copyFrom_17 fl_X5_15 (by decide) (by first | assumption | rfl) ?_
  refine PW.puti (pc := 20) dX5_copyFrom_20 fl_X5_15 (by first | assumption | rfl) ?_
  exact PW.vreturn (pc := 23) dX5_copyFrom_23 rfl (px_rfl)
set_option maxRecDepth 100000 in
set_option maxHeartbeats 4000000 in
theorem c_X5_codeOf (d : Nat) {a b c e : Int} : PC sc mX5_codeOf d 0 0 [.inl a, .inl b, .inl c, .inl e] Γ I R (px (some (.inl (pw_or (pw_or (pw_or (pw_shl a 6) (pw_shl b 4)) (pw_shl c 2)) e))) Γ I R) := by
  refine PC.ofPW (by decide) (Nat.le_of_ble_eq_true rfl) ?_
  refine PW.iload_n (pc := 0) dX5_codeOf_0 rfl ?_
  refine PW.bipush (pc := 1) dX5_codeOf_1 (by decide) ?_
  refine PW.ishl (pc := 3) dX5_codeOf_3 ?_
  refine PW.iload_n (pc := 4) dX5_codeOf_4 rfl ?_
  refine PW.iconst (pc := 5) dX5_codeOf_5 ?_
  refine PW.ishl (pc := 6) dX5_codeOf_6 ?_
  refine PW.ior (pc := 7) dX5_codeOf_7 ?_
  refine PW.iload_n (pc := 8) dX5_codeOf_8 rfl ?_
  refine PW.iconst (pc := 9) dX5_codeOf_9 ?_
  refine PW.ishl (pc := 10) dX5_codeOf_10 ?_
  refine PW.ior (pc := 11) dX5_codeOf_11 ?_
  refine PW.iload_n (pc := 12) dX5_codeOf_12 rfl ?_
  refine PW.ior (pc := 13) dX5_codeOf_13 ?_
  exact PW.ireturn (pc := 14) dX5_codeOf_14 rfl (px_rfl)
set_option maxRecDepth 100000 in
set_option maxHeartbeats 4000000 in
theorem c_X5_has (d : Nat) {h : Nat} {k : Int} (hh : Γ[h]? = some (.inl 5)) (hk : Rg k) (hs : Rg (I h 1)) : PC sc mX5_has d 0 0 [.inr (some h), .inl k] Γ I R (px (some (.inl (bi (0 ≤ k ∧ k < I h 1 ∧ k < 6)))) Γ I R) := by
  refine PC.ofPW (by decide) (Nat.le_of_ble_eq_true rfl) ?_
  refine PW.iload_n (pc := 0) dX5_has_0 rfl ?_
  refine PW.if_lt (pc := 1) (tgt := 22) dX5_has_1 (by decide) (by first | omega | exact rg_of _) (fun c_1 => ?_) (fun c_1 => ?_)
  · refine PW.iconst (pc := 22) dX5_has_22 ?_
    exact PW.zreturn (pc := 23) dX5_has_23 rfl (by first | exact Or.inl rfl | exact Or.inr rfl | omega) (by first | (rw [bi_pos (by omega)]; exact px_rfl) | (rw [bi_neg (by omega)]; exact px_rfl))
  · refine PW.iload_n (pc := 4) dX5_has_4 rfl ?_
    refine PW.aload_n (pc := 5) dX5_has_5 rfl ?_
    refine PW.geti (pc := 6) dX5_has_6 fl_X5_15 (by decide) (by first | assumption | rfl) ?_
    refine PW.icmp_ge (pc := 9) (tgt := 22) dX5_has_9 (by decide) (by first | omega | exact rg_of _) (by first | omega | exact rg_of _) (fun c_9 => ?_) (fun c_9 => ?_)
    · refine PW.iconst (pc := 22) dX5_has_22 ?_
      exact PW.zreturn (pc := 23) dX5_has_23 rfl (by first | exact Or.inl rfl | exact Or.inr rfl | omega) (by first | (rw [bi_pos (by omega)]; exact px_rfl) | (rw [bi_neg (by omega)]; exact px_rfl))
    · refine PW.iload_n (pc := 12) dX5_has_12 rfl ?_
      refine PW.bipush (pc := 13) dX5_has_13 (by decide) ?_
      refine PW.icmp_ge (pc := 15) (tgt := 22) dX5_has_15 (by decide) (by first | omega | exact rg_of _) (by first | omega | exact rg_of _) (fun c_15 => ?_) (fun c_15 => ?_)
      · refine PW.iconst (pc := 22) dX5_has_22 ?_
        exact PW.zreturn (pc := 23) dX5_has_23 rfl (by first | exact Or.inl rfl | exact Or.inr rfl | omega) (by first | (rw [bi_pos (by omega)]; exact px_rfl) | (rw [bi_neg (by omega)]; exact px_rfl))
      · refine PW.iconst (pc := 18) dX5_has_18 ?_
        refine PW.goto (pc := 19) (tgt := 23) dX5_has_19 (by decide) ?_
        exact PW.zreturn (pc := 23) dX5_has_23 rfl (by first | exact Or.inl rfl | exact Or.inr rfl | omega) (by first | (rw [bi_pos (by omega)]; exact px_rfl) | (rw [bi_neg (by omega)]; exact px_rfl))
set_option maxRecDepth 100000 in
set_option maxHeartbeats 4000000 in
theorem c_X5_codeAt (d : Nat) {h : Nat} {k : Int} (hh : ProgAt Γ R h) (hk : Rg k) (hs : Rg (I h 1)) : PC sc mX5_codeAt (d + 1) 0 0 [.inr (some h), .inl k] Γ I R (px (some (.inl (if 0 ≤ k ∧ k < I h 1 ∧ k < 6 then I (h + 1) k else -1))) Γ I R) := by
  obtain ⟨h1, h2, h3⟩ := hh
  refine PC.ofPW (by decide) (Nat.le_of_ble_eq_true rfl) ?_
  refine PW.aload_n (pc := 0) dX5_codeAt_0 rfl ?_
  refine PW.iload_n (pc := 1) dX5_codeAt_1 rfl ?_
  refine PW.invV0x (pc := 2) dX5_codeAt_2 mv_X5_25 (c_X5_has d h1 hk hs) (by first | assumption | rfl) rfl rfl (Nat.le_of_ble_eq_true rfl) ?_
  refine PW.if_eq (pc := 5) (tgt := 17) dX5_codeAt_5 (by decide) (rg_bi _) (fun c_5 => ?_) (fun c_5 => ?_)
  · have c_5 := bi0 c_5
    refine PW.iconst (pc := 17) dX5_codeAt_17 ?_
    exact PW.ireturn (pc := 18) dX5_codeAt_18 rfl (by first | (rw [if_pos c_5]; exact px_rfl) | (rw [if_neg c_5]; exact px_rfl))
  · have c_5 := bi1 c_5
    refine PW.aload_n (pc := 8) dX5_codeAt_8 rfl ?_
    refine PW.getr (pc := 9) dX5_codeAt_9 fl_X5_9 (by first | assumption | rfl) (by first | assumption | rfl) ?_
    refine PW.iload_n (pc := 12) dX5_codeAt_12 rfl ?_
    refine PW.iald (pc := 13) dX5_codeAt_13 (by first | assumption | rfl) (by omega) (by omega) (by omega) ?_
    refine PW.goto (pc := 14) (tgt := 18) dX5_codeAt_14 (by decide) ?_
    exact PW.ireturn (pc := 18) dX5_codeAt_18 rfl (by first | (rw [if_pos c_5]; exact px_rfl) | (rw [if_neg c_5]; exact px_rfl))
set_option maxRecDepth 100000 in
set_option maxHeartbeats 4000000 in
theorem c_X5_set (d : Nat) {h : Nat} {k c : Int} (hh : ProgAt Γ R h) (hk : 0 ≤ k) (hk6 : k < 6) (hks : k ≤ I h 1) (hs : Rg (I h 1)) : PC sc mX5_set d 0 0 [.inr (some h), .inl k, .inl c] Γ I R (px none Γ (if k = I h 1 then pw_up (pw_up I (h + 1) k c) h 1 (k + 1) else pw_up I (h + 1) k c) R) := by
  obtain ⟨h1, h2, h3⟩ := hh
  refine PC.ofPW (by decide) (Nat.le_of_ble_eq_true rfl) ?_
  have e1 : pw_up I (h + 1) k c h 1 = I h 1 := pw_up_other (by omega)
  refine PW.iload_n (pc := 0) dX5_set_0 rfl ?_
  refine PW.if_lt (pc := 1) (tgt := 18) dX5_set_1 (by decide) (by first | omega | exact rg_of _) (fun c_1 => ?_) (fun c_1 => ?_)
  · omega
  · refine PW.iload_n (pc := 4) dX5_set_4 rfl ?_
    refine PW.aload_n (pc := 5) dX5_set_5 rfl ?_
    refine PW.geti (pc := 6) dX5_set_6 fl_X5_15 (by decide) (by first | assumption | rfl) ?_
    refine PW.icmp_gt (pc := 9) (tgt := 18) dX5_set_9 (by decide) (by first | omega | exact rg_of _) (by first | omega | exact rg_of _) (fun c_9 => ?_) (fun c_9 => ?_)
    · omega
    · refine PW.iload_n (pc := 12) dX5_set_12 rfl ?_
      refine PW.bipush (pc := 13) dX5_set_13 (by decide) ?_
      refine PW.icmp_lt (pc := 15) (tgt := 19) dX5_set_15 (by decide) (by first | omega | exact rg_of _) (by first | omega | exact rg_of _) (fun c_15 => ?_) (fun c_15 => ?_)
      · refine PW.aload_n (pc := 19) dX5_set_19 rfl ?_
        refine PW.getr (pc := 20) dX5_set_20 fl_X5_9 (by first | assumption | rfl) (by first | assumption | rfl) ?_
        refine PW.iload_n (pc := 23) dX5_set_23 rfl ?_
        refine PW.iload_n (pc := 24) dX5_set_24 rfl ?_
        refine PW.iast (pc := 25) dX5_set_25 (by first | assumption | rfl) (by omega) (by omega) (by omega) ?_
        refine PW.iload_n (pc := 26) dX5_set_26 rfl ?_
        refine PW.aload_n (pc := 27) dX5_set_27 rfl ?_
        refine PW.geti (pc := 28) dX5_set_28 fl_X5_15 (by decide) (by first | assumption | rfl) ?_
        rw [e1]
        refine PW.icmp_ne (pc := 31) (tgt := 41) dX5_set_31 (by decide) (by first | omega | exact rg_of _) (by first | omega | exact rg_of _) (fun c_31 => ?_) (fun c_31 => ?_)
        · exact PW.vreturn (pc := 41) dX5_set_41 rfl (by first | (rw [if_pos (by omega)]; exact px_rfl) | (rw [if_neg (by omega)]; exact px_rfl))
        · refine PW.aload_n (pc := 34) dX5_set_34 rfl ?_
          refine PW.iload_n (pc := 35) dX5_set_35 rfl ?_
          refine PW.iconst (pc := 36) dX5_set_36 ?_
          refine PW.iadd (pc := 37) dX5_set_37 ?_
          refine PW.puti (pc := 38) dX5_set_38 fl_X5_15 (by first | assumption | rfl) ?_
          exact PW.vreturn (pc := 41) dX5_set_41 rfl (by first | (rw [if_pos (by omega)]; exact px_rfl) | (rw [if_neg (by omega)]; exact px_rfl))
      · omega
set_option maxRecDepth 100000 in
set_option maxHeartbeats 4000000 in
theorem c_X5_kindOf (d : Nat) {c : Int} : PC sc mX5_kindOf d 0 0 [.inl c] Γ I R (px (some (.inl (pw_and (pw_shr c 6) 3))) Γ I R) := by
  refine PC.ofPW (by decide) (Nat.le_of_ble_eq_true rfl) ?_
  refine PW.iload_n (pc := 0) dX5_kindOf_0 rfl ?_
  refine PW.bipush (pc := 1) dX5_kindOf_1 (by decide) ?_
  refine PW.ishr (pc := 3) dX5_kindOf_3 ?_
  refine PW.iconst (pc := 4) dX5_kindOf_4 ?_
  refine PW.iand (pc := 5) dX5_kindOf_5 ?_
  exact PW.ireturn (pc := 6) dX5_kindOf_6 rfl (px_rfl)
set_option maxRecDepth 100000 in
set_option maxHeartbeats 4000000 in
theorem c_X5_targetOf (d : Nat) {c : Int} : PC sc mX5_targetOf d 0 0 [.inl c] Γ I R (px (some (.inl (pw_and (pw_shr c 4) 3))) Γ I R) := by
  refine PC.ofPW (by decide) (Nat.le_of_ble_eq_true rfl) ?_
  refine PW.iload_n (pc := 0) dX5_targetOf_0 rfl ?_
  refine PW.iconst (pc := 1) dX5_targetOf_1 ?_
  refine PW.ishr (pc := 2) dX5_targetOf_2 ?_
  refine PW.iconst (pc := 3) dX5_targetOf_3 ?_
  refine PW.iand (pc := 4) dX5_targetOf_4 ?_
  exact PW.ireturn (pc := 5) dX5_targetOf_5 rfl (px_rfl)
set_option maxRecDepth 100000 in
set_option maxHeartbeats 4000000 in
theorem c_X5_firstOf (d : Nat) {c : Int} : PC sc mX5_firstOf d 0 0 [.inl c] Γ I R (px (some (.inl (pw_and (pw_shr c 2) 3))) Γ I R) := by
  refine PC.ofPW (by decide) (Nat.le_of_ble_eq_true rfl) ?_
  refine PW.iload_n (pc := 0) dX5_firstOf_0 rfl ?_
  refine PW.iconst (pc := 1) dX5_firstOf_1 ?_
  refine PW.ishr (pc := 2) dX5_firstOf_2 ?_
  refine PW.iconst (pc := 3) dX5_firstOf_3 ?_
  refine PW.iand (pc := 4) dX5_firstOf_4 ?_
  exact PW.ireturn (pc := 5) dX5_firstOf_5 rfl (px_rfl)
set_option maxRecDepth 100000 in
set_option maxHeartbeats 4000000 in
theorem c_X5_secondOf (d : Nat) {c : Int} : PC sc mX5_secondOf d 0 0 [.inl c] Γ I R (px (some (.inl (pw_and c 3))) Γ I R) := by
  refine PC.ofPW (by decide) (Nat.le_of_ble_eq_true rfl) ?_
  refine PW.iload_n (pc := 0) dX5_secondOf_0 rfl ?_
  refine PW.iconst (pc := 1) dX5_secondOf_1 ?_
  refine PW.iand (pc := 2) dX5_secondOf_2 ?_
  exact PW.ireturn (pc := 3) dX5_secondOf_3 rfl (px_rfl)
end LEAF
