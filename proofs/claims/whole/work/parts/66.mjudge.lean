section MJUDGE
variable {sc : PSc} {Γ : List PTy} {R : PRm}
set_option maxRecDepth 100000 in
set_option maxHeartbeats 1000000 in
theorem c_X11_isRuledOut (d : Nat) {I : PIm} {zn : Nat} {tb : Int → Tm} {F : FS} {fs : Int} {E : Tm → Tm → Prop} (M : MAt Γ R) (hz2 : zn ≤ 200) (hF : MFcts I F tb zn) (hk : KC (I 137) zn tb E) : PC sc mX11_isRuledOut (d + 1) 0 0 [.inr (some 112), .inl fs] Γ I R (px (some (.inl (cb (ROut (UT tb zn) F fs E)))) Γ I R) := by
  obtain ⟨f1, f2, f3⟩ := id hF
  have loop : ∀ (N k : Nat) (g : Int), F.1 - k = N → k ≤ F.1 → ((g = 0 ∧ ∀ k' : Int, 0 ≤ k' → k' < k → ¬ (inb fs k' ∧ F.2.1 k' = 0 ∧ Cl (UT tb zn) E (F.2.2.1 k') (F.2.2.2 k'))) ∨ (g = 1 ∧ ROut (UT tb zn) F fs E)) → PW sc mX11_isRuledOut (d + 1) 0 0 (px (some (.inl (cb (ROut (UT tb zn) F fs E)))) Γ I R) 4 [some (.inr (some 112)), some (.inl fs), some (.inl g), some (.inl (k : Int))] [] Γ I R := by
    intro N
    induction N using Nat.strongRecOn with
    | _ N ih =>
      intro k g hN hkk hg
      by_cases hl : k < F.1
      · obtain ⟨⟨x1, x2⟩, ⟨c2, c3, c4⟩, c5, c6, c7⟩ := f3 k (by omega) (by omega)
        have r1 := hk.1 _ c2 c3
        have r2 := hk.1 _ c5 c6
        have sm := hk.2 _ _ c2 c3 c5 c6
        rw [c4, c7] at sm
        have nx := fun g h => ih (F.1 - (k + 1)) (by omega) (k + 1) g rfl (by omega) h
        rcases hg with ⟨rfl, hno⟩ | ⟨rfl, hy⟩
        · refine PW.iload_n (pc := 4) dX11_isRuledOut_4 rfl ?_
          refine PW.aload_n (pc := 5) dX11_isRuledOut_5 rfl ?_
          refine PW.geti (pc := 6) dX11_isRuledOut_6 fl_X11_162 (by decide) M.g112 ?_
          rw [f1]
          refine PW.icmp_ge (pc := 9) (tgt := 70) dX11_isRuledOut_9 (by decide) (by first | omega | exact rg_of _) (by first | omega | exact rg_of _) (fun c_9 => ?_) (fun c_9 => ?_)
          · omega
          · refine PW.iload_n (pc := 12) dX11_isRuledOut_12 rfl ?_
            refine PW.if_ne (pc := 13) (tgt := 58) dX11_isRuledOut_13 (by decide) (by first | omega | exact rg_of _) (fun c_13 => ?_) (fun c_13 => ?_)
            · omega
            · refine PW.iload_n (pc := 16) dX11_isRuledOut_16 rfl ?_
              refine PW.iload_n (pc := 17) dX11_isRuledOut_17 rfl ?_
              refine PW.invS0x (pc := 18) dX11_isRuledOut_18 ms_X11_108 (c_X11_has _) rfl rfl (Nat.le_of_ble_eq_true rfl) ?_
              refine PW.if_eq (pc := 21) (tgt := 62) dX11_isRuledOut_21 (by decide) (rg_bi _) (fun c_21 => ?_) (fun c_21 => ?_)
              · refine PW.iconst (pc := 62) dX11_isRuledOut_62 ?_
                refine PW.istore_n (pc := 63) dX11_isRuledOut_63 (by decide) ?_
                refine PW.iinc (pc := 64) dX11_isRuledOut_64 rfl (by decide) ?_
                refine PW.goto (pc := 67) (tgt := 4) dX11_isRuledOut_67 (by decide) ?_
                first
                | exact nx 1 (Or.inr ⟨rfl, k, by omega, by omega, (show pw_and (pw_shr fs (k : Int)) 1 = 1 from bi1 c_21), by omega, sm.mp c_55⟩)
                | exact nx 0 (Or.inl ⟨rfl, fun k' q0 q1 => by
                    by_cases e : k' = (k : Int)
                    · rw [e]; rintro ⟨o1, o2, o3⟩
                      first
                      | exact bi0 c_21 o1
                      | omega
                      | exact c_55 (sm.mpr o3)
                    · exact hno k' q0 (by omega)⟩)
              · refine PW.aload_n (pc := 24) dX11_isRuledOut_24 rfl ?_
                refine PW.getr (pc := 25) dX11_isRuledOut_25 fl_X11_7 M.g112 M.r2 ?_
                refine PW.iload_n (pc := 28) dX11_isRuledOut_28 rfl ?_
                refine PW.zald (pc := 29) dX11_isRuledOut_29 M.g113 (by omega) (by omega) (by omega) ?_
                rw [x1]
                refine PW.if_eq (pc := 30) (tgt := 62) dX11_isRuledOut_30 (by decide) (by first | omega | exact rg_of _) (fun c_30 => ?_) (fun c_30 => ?_)
                · refine PW.iconst (pc := 62) dX11_isRuledOut_62 ?_
                  refine PW.istore_n (pc := 63) dX11_isRuledOut_63 (by decide) ?_
                  refine PW.iinc (pc := 64) dX11_isRuledOut_64 rfl (by decide) ?_
                  refine PW.goto (pc := 67) (tgt := 4) dX11_isRuledOut_67 (by decide) ?_
                  first
                  | exact nx 1 (Or.inr ⟨rfl, k, by omega, by omega, (show pw_and (pw_shr fs (k : Int)) 1 = 1 from bi1 c_21), by omega, sm.mp c_55⟩)
                  | exact nx 0 (Or.inl ⟨rfl, fun k' q0 q1 => by
                      by_cases e : k' = (k : Int)
                      · rw [e]; rintro ⟨o1, o2, o3⟩
                        first
                        | exact bi0 c_21 o1
                        | omega
                        | exact c_55 (sm.mpr o3)
                      · exact hno k' q0 (by omega)⟩)
                · refine PW.aload_n (pc := 33) dX11_isRuledOut_33 rfl ?_
                  refine PW.getr (pc := 34) dX11_isRuledOut_34 fl_X11_83 M.g112 M.r36 ?_
                  refine PW.aload_n (pc := 37) dX11_isRuledOut_37 rfl ?_
                  refine PW.getr (pc := 38) dX11_isRuledOut_38 fl_X11_13 M.g112 M.r3 ?_
                  refine PW.iload_n (pc := 41) dX11_isRuledOut_41 rfl ?_
                  refine PW.iald (pc := 42) dX11_isRuledOut_42 M.g114 (by omega) (by omega) (by omega) ?_
                  refine PW.iald (pc := 43) dX11_isRuledOut_43 M.g137 (by omega) (by omega) (by omega) ?_
                  refine PW.aload_n (pc := 44) dX11_isRuledOut_44 rfl ?_
                  refine PW.getr (pc := 45) dX11_isRuledOut_45 fl_X11_83 M.g112 M.r36 ?_
                  refine PW.aload_n (pc := 48) dX11_isRuledOut_48 rfl ?_
                  refine PW.getr (pc := 49) dX11_isRuledOut_49 fl_X11_17 M.g112 M.r4 ?_
                  refine PW.iload_n (pc := 52) dX11_isRuledOut_52 rfl ?_
                  refine PW.iald (pc := 53) dX11_isRuledOut_53 M.g115 (by omega) (by omega) (by omega) ?_
                  refine PW.iald (pc := 54) dX11_isRuledOut_54 M.g137 (by omega) (by omega) (by omega) ?_
                  refine PW.icmp_ne (pc := 55) (tgt := 62) dX11_isRuledOut_55 (by decide) (by first | omega | exact rg_of _) (by first | omega | exact rg_of _) (fun c_55 => ?_) (fun c_55 => ?_)
                  · refine PW.iconst (pc := 62) dX11_isRuledOut_62 ?_
                    refine PW.istore_n (pc := 63) dX11_isRuledOut_63 (by decide) ?_
                    refine PW.iinc (pc := 64) dX11_isRuledOut_64 rfl (by decide) ?_
                    refine PW.goto (pc := 67) (tgt := 4) dX11_isRuledOut_67 (by decide) ?_
                    first
                    | exact nx 1 (Or.inr ⟨rfl, k, by omega, by omega, (show pw_and (pw_shr fs (k : Int)) 1 = 1 from bi1 c_21), by omega, sm.mp c_55⟩)
                    | exact nx 0 (Or.inl ⟨rfl, fun k' q0 q1 => by
                        by_cases e : k' = (k : Int)
                        · rw [e]; rintro ⟨o1, o2, o3⟩
                          first
                          | exact bi0 c_21 o1
                          | omega
                          | exact c_55 (sm.mpr o3)
                        · exact hno k' q0 (by omega)⟩)
                  · refine PW.iconst (pc := 58) dX11_isRuledOut_58 ?_
                    refine PW.goto (pc := 59) (tgt := 63) dX11_isRuledOut_59 (by decide) ?_
                    refine PW.istore_n (pc := 63) dX11_isRuledOut_63 (by decide) ?_
                    refine PW.iinc (pc := 64) dX11_isRuledOut_64 rfl (by decide) ?_
                    refine PW.goto (pc := 67) (tgt := 4) dX11_isRuledOut_67 (by decide) ?_
                    first
                    | exact nx 1 (Or.inr ⟨rfl, k, by omega, by omega, (show pw_and (pw_shr fs (k : Int)) 1 = 1 from bi1 c_21), by omega, sm.mp c_55⟩)
                    | exact nx 0 (Or.inl ⟨rfl, fun k' q0 q1 => by
                        by_cases e : k' = (k : Int)
                        · rw [e]; rintro ⟨o1, o2, o3⟩
                          first
                          | exact bi0 c_21 o1
                          | omega
                          | exact c_55 (sm.mpr o3)
                        · exact hno k' q0 (by omega)⟩)
        · refine PW.iload_n (pc := 4) dX11_isRuledOut_4 rfl ?_
          refine PW.aload_n (pc := 5) dX11_isRuledOut_5 rfl ?_
          refine PW.geti (pc := 6) dX11_isRuledOut_6 fl_X11_162 (by decide) M.g112 ?_
          rw [f1]
          refine PW.icmp_ge (pc := 9) (tgt := 70) dX11_isRuledOut_9 (by decide) (by first | omega | exact rg_of _) (by first | omega | exact rg_of _) (fun c_9 => ?_) (fun c_9 => ?_)
          · omega
          · refine PW.iload_n (pc := 12) dX11_isRuledOut_12 rfl ?_
            refine PW.if_ne (pc := 13) (tgt := 58) dX11_isRuledOut_13 (by decide) (by first | omega | exact rg_of _) (fun c_13 => ?_) (fun c_13 => ?_)
            · refine PW.iconst (pc := 58) dX11_isRuledOut_58 ?_
              refine PW.goto (pc := 59) (tgt := 63) dX11_isRuledOut_59 (by decide) ?_
              refine PW.istore_n (pc := 63) dX11_isRuledOut_63 (by decide) ?_
              refine PW.iinc (pc := 64) dX11_isRuledOut_64 rfl (by decide) ?_
              refine PW.goto (pc := 67) (tgt := 4) dX11_isRuledOut_67 (by decide) ?_
              exact nx 1 (Or.inr ⟨rfl, hy⟩)
            · omega
      · obtain rfl : k = F.1 := by omega
        rcases hg with ⟨rfl, hno⟩ | ⟨rfl, hy⟩
        · refine PW.iload_n (pc := 4) dX11_isRuledOut_4 rfl ?_
          refine PW.aload_n (pc := 5) dX11_isRuledOut_5 rfl ?_
          refine PW.geti (pc := 6) dX11_isRuledOut_6 fl_X11_162 (by decide) M.g112 ?_
          rw [f1]
          refine PW.icmp_ge (pc := 9) (tgt := 70) dX11_isRuledOut_9 (by decide) (by first | omega | exact rg_of _) (by first | omega | exact rg_of _) (fun c_9 => ?_) (fun c_9 => ?_)
          · refine PW.iload_n (pc := 70) dX11_isRuledOut_70 rfl ?_
            exact PW.zreturn (pc := 71) dX11_isRuledOut_71 rfl (by first | exact Or.inl rfl | exact Or.inr rfl | omega) (pxc_neg (fun o => by obtain ⟨k, k0, k1, k2, k3, k4⟩ := o; exact hno k k0 k1 ⟨k2, k3, k4⟩))
          · omega
        · refine PW.iload_n (pc := 4) dX11_isRuledOut_4 rfl ?_
          refine PW.aload_n (pc := 5) dX11_isRuledOut_5 rfl ?_
          refine PW.geti (pc := 6) dX11_isRuledOut_6 fl_X11_162 (by decide) M.g112 ?_
          rw [f1]
          refine PW.icmp_ge (pc := 9) (tgt := 70) dX11_isRuledOut_9 (by decide) (by first | omega | exact rg_of _) (by first | omega | exact rg_of _) (fun c_9 => ?_) (fun c_9 => ?_)
          · refine PW.iload_n (pc := 70) dX11_isRuledOut_70 rfl ?_
            exact PW.zreturn (pc := 71) dX11_isRuledOut_71 rfl (by first | exact Or.inl rfl | exact Or.inr rfl | omega) (pxc_pos hy)
          · omega
  refine PC.ofPW (by decide) (Nat.le_of_ble_eq_true rfl) ?_
  refine PW.iconst (pc := 0) dX11_isRuledOut_0 ?_
  refine PW.istore_n (pc := 1) dX11_isRuledOut_1 (by decide) ?_
  refine PW.iconst (pc := 2) dX11_isRuledOut_2 ?_
  refine PW.istore_n (pc := 3) dX11_isRuledOut_3 (by decide) ?_
  exact loop _ 0 0 rfl (by omega) (Or.inl ⟨rfl, fun k' q0 q1 => by omega⟩)
set_option maxRecDepth 100000 in
set_option maxHeartbeats 1000000 in
theorem Cl.self {U : Tm → Prop} {F : FS} {fs : Int} {u t v : Tm} : Cl U (EQ1 F fs u u) t v ↔ Cl U (EQ F fs) t v := by
  constructor
  · intro h
    exact fun Rl c e => h Rl c (fun a b q => q.elim (e a b) (fun q => by rw [q.1, q.2]; exact c.1 _))
  · exact Cl.mono (fun a b q => Or.inl q)
set_option maxRecDepth 100000 in
set_option maxHeartbeats 1000000 in
theorem KC.self {rt : Int → Int} {z : Int} {tb : Int → Tm} {F : FS} {fs : Int} {u : Tm} (h : KC rt z tb (EQ1 F fs u u)) : KC rt z tb (EQ F fs) := ⟨h.1, fun i j i0 i1 j0 j1 => by rw [h.2 i j i0 i1 j0 j1, Cl.self]⟩
set_option maxRecDepth 100000 in
set_option maxHeartbeats 1000000 in
theorem c_X11_equalOf (d : Nat) {I : PIm} {zn : Nat} {tb : Int → Tm} {F : FS} {fs a b : Int} (M : MAt Γ R) (hz : I 112 13 = zn) (hz2 : zn ≤ 200) (T : MTab I zn tb) (hF : MFcts I F tb zn) (ha : 0 ≤ a ∧ a < zn) (hb : 0 ≤ b ∧ b < zn) : PC sc mX11_equalOf (d + 2) 0 0 [.inr (some 112), .inl fs, .inl a, .inl b] Γ I R (fun v Γ' I' R' => v = some (.inl (eqv (UT tb zn) F fs (tb a) (tb b))) ∧ Γ' = Γ ∧ R' = R ∧ ∀ q, q ≠ 137 → I' q = I q) := by
  have h4 := T.1
  refine PC.ofPW (by decide) (Nat.le_of_ble_eq_true rfl) ?_
  refine PW.aload_n (pc := 0) dX11_equalOf_0 rfl ?_
  refine PW.iload_n (pc := 1) dX11_equalOf_1 rfl ?_
  refine PW.iconst (pc := 2) dX11_equalOf_2 ?_
  refine PW.iconst (pc := 3) dX11_equalOf_3 ?_
  refine PW.invV0 (pc := 4) dX11_equalOf_4 mv_X11_182 (c_X11_laysSame _ M hz hz2 T hF (by omega) (by omega)) M.g112 rfl rfl (Nat.le_of_ble_eq_true rfl) ?_
  (rintro v Γ' I1 R' ⟨rfl, rfl, rfl, y1, k1⟩; replace k1 := k1.self)
  have F1 : MFcts I1 F tb zn := hF.cg (by rw [y1 112 (by omega)]) (fun q a b => y1 q (by omega)) (Int.le_refl _) (fun _ _ _ => rfl)
  have r1 := k1.1 a ha.1 ha.2
  have r2 := k1.1 b hb.1 hb.2
  have sm := k1.2 a b ha.1 ha.2 hb.1 hb.2
  refine PW.aload_n (pc := 7) dX11_equalOf_7 rfl ?_
  refine PW.iload_n (pc := 8) dX11_equalOf_8 rfl ?_
  refine PW.invV0x (pc := 9) dX11_equalOf_9 mv_X11_186 (c_X11_isRuledOut _ M hz2 F1 k1) M.g112 rfl rfl (Nat.le_of_ble_eq_true rfl) ?_
  refine PW.if_ne (pc := 12) (tgt := 30) dX11_equalOf_12 (by decide) (rg_cb _) (fun c_12 => ?_) (fun c_12 => ?_)
  · refine PW.iconst (pc := 30) dX11_equalOf_30 ?_
    exact PW.ireturn (pc := 31) dX11_equalOf_31 rfl (by
    refine ⟨?_, rfl, rfl, y1⟩
    unfold eqv
    rw [if_pos (cdec_true.mpr ?_)]
    first
    | exact Or.inr (cb1 c_12)
    | exact Or.inl (sm.mp c_27))
  · refine PW.aload_n (pc := 15) dX11_equalOf_15 rfl ?_
    refine PW.getr (pc := 16) dX11_equalOf_16 fl_X11_83 M.g112 M.r36 ?_
    refine PW.iload_n (pc := 19) dX11_equalOf_19 rfl ?_
    refine PW.iald (pc := 20) dX11_equalOf_20 M.g137 (by omega) (by omega) (by omega) ?_
    refine PW.aload_n (pc := 21) dX11_equalOf_21 rfl ?_
    refine PW.getr (pc := 22) dX11_equalOf_22 fl_X11_83 M.g112 M.r36 ?_
    refine PW.iload_n (pc := 25) dX11_equalOf_25 rfl ?_
    refine PW.iald (pc := 26) dX11_equalOf_26 M.g137 (by omega) (by omega) (by omega) ?_
    refine PW.icmp_ne (pc := 27) (tgt := 32) dX11_equalOf_27 (by decide) (by first | omega | exact rg_of _) (by first | omega | exact rg_of _) (fun c_27 => ?_) (fun c_27 => ?_)
    · refine PW.aload_n (pc := 32) dX11_equalOf_32 rfl ?_
      refine PW.iload_n (pc := 33) dX11_equalOf_33 rfl ?_
      refine PW.iload_n (pc := 34) dX11_equalOf_34 rfl ?_
      refine PW.iload_n (pc := 35) dX11_equalOf_35 rfl ?_
      refine PW.invV0 (pc := 36) dX11_equalOf_36 mv_X11_182 (c_X11_laysSame _ M (by rw [y1 112 (by omega)]; exact hz) hz2 (T.cg (fun q g1 g2 k _ _ => by rw [y1 q (by omega)])) F1 ha hb) M.g112 rfl rfl (Nat.le_of_ble_eq_true rfl) ?_
      (rintro v Γ' I2 R' ⟨rfl, rfl, rfl, y2, k2⟩)
      have F2 : MFcts I2 F tb zn := F1.cg (by rw [y2 112 (by omega)]) (fun q a b => y2 q (by omega)) (Int.le_refl _) (fun _ _ _ => rfl)
      have hno : ¬ (Cl (UT tb zn) (EQ F fs) (tb a) (tb b) ∨ ROut (UT tb zn) F fs (EQ F fs)) := fun o => o.elim (fun o => c_27 (sm.mpr o)) (fun o => cb0 c_12 o)
      refine PW.aload_n (pc := 39) dX11_equalOf_39 rfl ?_
      refine PW.iload_n (pc := 40) dX11_equalOf_40 rfl ?_
      refine PW.invV0x (pc := 41) dX11_equalOf_41 mv_X11_186 (c_X11_isRuledOut _ M hz2 F2 k2) M.g112 rfl rfl (Nat.le_of_ble_eq_true rfl) ?_
      refine PW.if_eq (pc := 44) (tgt := 51) dX11_equalOf_44 (by decide) (rg_cb _) (fun c_44 => ?_) (fun c_44 => ?_)
      · refine PW.iconst (pc := 51) dX11_equalOf_51 ?_
        exact PW.ireturn (pc := 52) dX11_equalOf_52 rfl (by
        refine ⟨?_, rfl, rfl, fun q hq => by rw [y2 q hq, y1 q hq]⟩
        unfold eqv
        rw [if_neg (fun o => hno (cdec_true.mp o))]
        first
        | exact congrArg _ (congrArg _ (if_pos (cdec_true.mpr (cb1 c_44))).symm)
        | exact congrArg _ (congrArg _ (if_neg (fun o => cb0 c_44 (cdec_true.mp o))).symm))
      · refine PW.iconst (pc := 47) dX11_equalOf_47 ?_
        refine PW.goto (pc := 48) (tgt := 52) dX11_equalOf_48 (by decide) ?_
        exact PW.ireturn (pc := 52) dX11_equalOf_52 rfl (by
        refine ⟨?_, rfl, rfl, fun q hq => by rw [y2 q hq, y1 q hq]⟩
        unfold eqv
        rw [if_neg (fun o => hno (cdec_true.mp o))]
        first
        | exact congrArg _ (congrArg _ (if_pos (cdec_true.mpr (cb1 c_44))).symm)
        | exact congrArg _ (congrArg _ (if_neg (fun o => cb0 c_44 (cdec_true.mp o))).symm))
    · refine PW.iconst (pc := 30) dX11_equalOf_30 ?_
      exact PW.ireturn (pc := 31) dX11_equalOf_31 rfl (by
      refine ⟨?_, rfl, rfl, y1⟩
      unfold eqv
      rw [if_pos (cdec_true.mpr ?_)]
      first
      | exact Or.inr (cb1 c_12)
      | exact Or.inl (sm.mp c_27))
/-- a program gone through in the reference, PLAIN and PIPED -/
def MRun (I I' : PIm) (tb tb' : Int → Tm) (P : Int → Int) (lag fw w : Int) (n : Nat) : Prop := MTab I' (I' 112 13) tb' ∧ (I 112 14 ≤ I' 112 13 ∧ I' 112 13 ≤ I 112 14 + 2 * n) ∧ (∀ j, j < I 112 14 → tb' j = tb j) ∧ (∀ u, UT tb' (I' 112 13) u ↔ UR (UT tb (I 112 14)) P lag fw w n u) ∧ (∀ r : Int, 0 ≤ r → r < 4 → (0 ≤ I' 140 r ∧ I' 140 r < I' 112 13 ∧ tb' (I' 140 r) = plT P n r) ∧ (0 ≤ I' 140 (r + 4) ∧ I' 140 (r + 4) < I' 112 13 ∧ tb' (I' 140 (r + 4)) = piT P lag fw w n r)) ∧ (∀ k : Int, 0 ≤ k → k < n → I' 138 k = St P lag fw w k) ∧ ∀ q k, ¬ ((122 ≤ q ∧ q ≤ 124) ∨ (q = 112 ∧ k = 13) ∨ (138 ≤ q ∧ q ≤ 140)) → I' q k = I q k
set_option maxRecDepth 100000 in
set_option maxHeartbeats 1000000 in
theorem MMk_0 (P : Int → Int) (lag fw w : Int) : MMk P lag fw w 0 = plM P := by
  have : MV P lag fw w 0 = Vt := by funext k j; rfl
  unfold MMk plM
  rw [this]
set_option maxRecDepth 100000 in
set_option maxHeartbeats 1000000 in
theorem MMk_1 (P : Int → Int) (lag fw w : Int) : MMk P lag fw w 1 = piM P lag fw w := by
  have : MV P lag fw w 1 = Vp P lag fw w := by funext k j; rfl
  unfold MMk piM
  rw [this]
set_option maxRecDepth 100000 in
set_option maxHeartbeats 1000000 in
theorem UT.mgrow {I0 I : PIm} {tb0 tb : Int → Tm} {S : Tm → Prop} (G : MGrow I0 I tb0 tb S) (u : Tm) : UT tb (I 112 13) u ↔ UT tb0 (I0 112 13) u ∨ S u := by
  obtain ⟨g1, g2, g3, g4, g5⟩ := G
  constructor
  · rintro ⟨i, i0, i1, rfl⟩
    rcases g4 i i0 i1 with q | q
    · left; exact ⟨i, i0, q, (g3 i q).symm⟩
    · right; exact q
  · rintro (⟨i, i0, i1, rfl⟩ | h)
    · exact ⟨i, i0, by omega, g3 i i1⟩
    · exact g5 u h
set_option maxRecDepth 100000 in
set_option maxHeartbeats 1000000 in
theorem c_X11_runs (d : Nat) {I0 : PIm} {P : Int → Int} {n : Nat} {lag fw w : Int} {tb0 : Int → Tm} (M : MAt Γ R) (hP : ProgM I0 P n) (hl : I0 116 26 = lag) (hl3 : 0 ≤ lag ∧ lag ≤ 3) (hw : w = 0 ∨ w = 1) (T : MTab I0 (I0 112 14) tb0) (hz : I0 112 14 ≤ 104) : PC sc mX11_runs (d + 6) 0 0 [.inr (some 112), .inl fw, .inl w] Γ I0 R (fun v Γ' I' R' => v = none ∧ Γ' = Γ ∧ R' = R ∧ ∃ tb', MRun I0 I' tb0 tb' P lag fw w n) := by
  have hn6 := hP.2.1
  have h4 := T.1
  refine PC.ofPW (by decide) (Nat.le_of_ble_eq_true rfl) ?_
  have x13 : pw_up I0 112 13 (I0 112 14) 112 13 = I0 112 14 := pw_up_self _ _ _ _
  have y0 : ∀ q k, ¬ (q = 112 ∧ k = 13) → pw_up I0 112 13 (I0 112 14) q k = I0 q k := fun q k g => pw_up_other (by omega)
  generalize hI1 : pw_up I0 112 13 (I0 112 14) = I1 at x13 y0
  have PM : ProgM I1 P n := hP.cg (by funext z; exact y0 116 z (by omega))
  refine PW.aload_n (pc := 0) dX11_runs_0 rfl ?_
  refine PW.aload_n (pc := 1) dX11_runs_1 rfl ?_
  refine PW.geti (pc := 2) dX11_runs_2 fl_X11_119 (by decide) M.g112 ?_
  refine PW.puti (pc := 5) dX11_runs_5 fl_X11_112 M.g112 ?_
  rw [hI1]
  refine PW.aload_n (pc := 8) dX11_runs_8 rfl ?_
  refine PW.iload_n (pc := 9) dX11_runs_9 rfl ?_
  refine PW.iload_n (pc := 10) dX11_runs_10 rfl ?_
  refine PW.invV0 (pc := 11) dX11_runs_11 mv_X11_213 (c_X11_laysSteps _ M PM (by rw [y0 116 26 (by omega)]; exact hl) hl3 hw) M.g112 rfl rfl (Nat.le_of_ble_eq_true rfl) ?_
  (rintro v Γ' I2 R' ⟨rfl, rfl, rfl, y2, st2⟩)
  have e2 : I2 112 13 = I0 112 14 := by rw [y2 112 (by omega)]; exact x13
  have T2 : MTab I2 (I2 112 13) tb0 := by rw [e2]; exact T.cg (fun q g1 g2 k _ _ => by rw [y2 q (by omega), y0 q k (by omega)])
  have PM2 : ProgM I2 P n := PM.cg (y2 116 (by omega))
  refine PW.aload_n (pc := 14) dX11_runs_14 rfl ?_
  refine PW.iload_n (pc := 15) dX11_runs_15 rfl ?_
  refine PW.iconst (pc := 16) dX11_runs_16 ?_
  refine PW.invV0 (pc := 17) dX11_runs_17 mv_X11_217 (c_X11_goes (lag := lag) (w := w) _ M PM2 (by rw [y2 116 (by omega), y0 116 26 (by omega)]; exact hl) hl3 (Or.inl rfl) T2 (by omega) st2) M.g112 rfl rfl (Nat.le_of_ble_eq_true rfl) ?_
  (rintro v Γ' I3 R' ⟨rfl, rfl, rfl, tb3, G3⟩)
  obtain ⟨g1, g2, g3, g4⟩ := G3
  have PM3 : ProgM I3 P n := PM2.cg (by funext z; exact g3 116 z (by omega))
  refine PW.aload_n (pc := 20) dX11_runs_20 rfl ?_
  refine PW.iload_n (pc := 21) dX11_runs_21 rfl ?_
  refine PW.iconst (pc := 22) dX11_runs_22 ?_
  refine PW.invV0 (pc := 23) dX11_runs_23 mv_X11_217 (c_X11_goes (lag := lag) (w := w) _ M PM3 (by rw [g3 116 26 (by omega), y2 116 (by omega), y0 116 26 (by omega)]; exact hl) hl3 (Or.inr rfl) g1.1 (by omega) (fun j j0 j1 => by rw [g3 138 j (by omega)]; exact st2 j j0 j1)) M.g112 rfl rfl (Nat.le_of_ble_eq_true rfl) ?_
  (rintro v Γ' I4 R' ⟨rfl, rfl, rfl, tb4, G4⟩)
  obtain ⟨k1, k2, k3, k4⟩ := G4
  exact PW.vreturn (pc := 26) dX11_runs_26 rfl (by
  have gr := g1.2.1
  have kr := k1.2.1
  refine ⟨rfl, rfl, rfl, tb4, k1.1, ⟨by omega, by omega⟩, fun j hj => ?_, fun u => ?_, fun r r0 r1 => ⟨?_, ?_⟩, fun k q0 q1 => ?_, fun q k g => ?_⟩
  · rw [k1.2.2.1 j (by omega), g1.2.2.1 j (by omega)]
  · rw [UT.mgrow k1 u, UT.mgrow g1 u, e2]
    unfold UR
    rw [MMk_0, MMk_1]
  · obtain ⟨u1, u2, u3⟩ := g4 r r0 r1
    rw [MMk_0] at u3
    have e : I4 140 r = I3 140 (r + 4 * 0) := by rw [k3 140 r (by omega)]; exact congrArg _ (by omega)
    rw [e]
    exact ⟨u1, by omega, by rw [k1.2.2.1 _ u2]; exact u3⟩
  · obtain ⟨u1, u2, u3⟩ := k4 r r0 r1
    rw [MMk_1] at u3
    exact ⟨u1, u2, u3⟩
  · rw [k3 138 k (by omega), g3 138 k (by omega)]; exact st2 k q0 q1
  · rw [k3 q k (by omega), g3 q k (by omega), y2 q (by omega), y0 q k (by omega)])
set_option maxRecDepth 100000 in
set_option maxHeartbeats 1000000 in
theorem c_X11_runsNow (d : Nat) {I0 : PIm} {P : Int → Int} {n : Nat} {lag fw w : Int} {tb0 : Int → Tm} (M : MAt Γ R) (hP : ProgM I0 P n) (hl : I0 116 26 = lag) (hl3 : 0 ≤ lag ∧ lag ≤ 3) (hf : I0 116 27 = fw) (hw0 : I0 116 28 = w) (hw : w = 0 ∨ w = 1) (T : MTab I0 (I0 112 14) tb0) (hz : I0 112 14 ≤ 104) : PC sc mX11_runsNow (d + 7) 0 0 [.inr (some 112)] Γ I0 R (fun v Γ' I' R' => v = none ∧ Γ' = Γ ∧ R' = R ∧ ∃ tb', MRun I0 I' tb0 tb' P lag fw w n) := by
  have RN := c_X11_runs (sc := sc) (Γ := Γ) (R := R) d (fw := fw) (w := w) M hP hl hl3 hw T hz
  refine PC.ofPW (by decide) (Nat.le_of_ble_eq_true rfl) ?_
  rcases hw with rfl | rfl
  · refine PW.aload_n (pc := 0) dX11_runsNow_0 rfl ?_
    refine PW.aload_n (pc := 1) dX11_runsNow_1 rfl ?_
    refine PW.getr (pc := 2) dX11_runsNow_2 fl_X11_20 M.g112 M.r5 ?_
    refine PW.bipush (pc := 5) dX11_runsNow_5 (by decide) ?_
    refine PW.iald (pc := 7) dX11_runsNow_7 M.g116 (by omega) (by omega) (by omega) ?_
    rw [hf]
    refine PW.aload_n (pc := 8) dX11_runsNow_8 rfl ?_
    refine PW.getr (pc := 9) dX11_runsNow_9 fl_X11_20 M.g112 M.r5 ?_
    refine PW.bipush (pc := 12) dX11_runsNow_12 (by decide) ?_
    refine PW.iald (pc := 14) dX11_runsNow_14 M.g116 (by omega) (by omega) (by omega) ?_
    rw [hw0]
    refine PW.iconst (pc := 15) dX11_runsNow_15 ?_
    refine PW.icmp_ne (pc := 16) (tgt := 23) dX11_runsNow_16 (by decide) (by first | omega | exact rg_of _) (by first | omega | exact rg_of _) (fun c_16 => ?_) (fun c_16 => ?_)
    · refine PW.iconst (pc := 23) dX11_runsNow_23 ?_
      refine PW.invV0 (pc := 24) dX11_runsNow_24 mv_X11_220 (RN) M.g112 rfl rfl (Nat.le_of_ble_eq_true rfl) ?_
      (rintro v Γ' I' R' ⟨rfl, h⟩)
      exact PW.vreturn (pc := 27) dX11_runsNow_27 rfl (⟨rfl, h⟩)
    · omega
  · refine PW.aload_n (pc := 0) dX11_runsNow_0 rfl ?_
    refine PW.aload_n (pc := 1) dX11_runsNow_1 rfl ?_
    refine PW.getr (pc := 2) dX11_runsNow_2 fl_X11_20 M.g112 M.r5 ?_
    refine PW.bipush (pc := 5) dX11_runsNow_5 (by decide) ?_
    refine PW.iald (pc := 7) dX11_runsNow_7 M.g116 (by omega) (by omega) (by omega) ?_
    rw [hf]
    refine PW.aload_n (pc := 8) dX11_runsNow_8 rfl ?_
    refine PW.getr (pc := 9) dX11_runsNow_9 fl_X11_20 M.g112 M.r5 ?_
    refine PW.bipush (pc := 12) dX11_runsNow_12 (by decide) ?_
    refine PW.iald (pc := 14) dX11_runsNow_14 M.g116 (by omega) (by omega) (by omega) ?_
    rw [hw0]
    refine PW.iconst (pc := 15) dX11_runsNow_15 ?_
    refine PW.icmp_ne (pc := 16) (tgt := 23) dX11_runsNow_16 (by decide) (by first | omega | exact rg_of _) (by first | omega | exact rg_of _) (fun c_16 => ?_) (fun c_16 => ?_)
    · omega
    · refine PW.iconst (pc := 19) dX11_runsNow_19 ?_
      refine PW.goto (pc := 20) (tgt := 24) dX11_runsNow_20 (by decide) ?_
      refine PW.invV0 (pc := 24) dX11_runsNow_24 mv_X11_220 (RN) M.g112 rfl rfl (Nat.le_of_ble_eq_true rfl) ?_
      (rintro v Γ' I' R' ⟨rfl, h⟩)
      exact PW.vreturn (pc := 27) dX11_runsNow_27 rfl (⟨rfl, h⟩)
end MJUDGE
