section MLAYS
variable {sc : PSc} {Γ : List PTy} {R : PRm}
set_option maxRecDepth 100000 in
set_option maxHeartbeats 1000000 in
theorem pw_div_nn {x y : Int} (x0 : 0 ≤ x) (x1 : x ≤ 2147483647) (y0 : 0 < y) (y1 : y ≤ 2147483647) : pw_div x y = x / y := by
  have h : x / y ≤ x := Int.ediv_le_self _ x0
  have h0 : 0 ≤ x / y := Int.ediv_nonneg x0 (by omega)
  unfold pw_div
  rw [Int32.toInt_div, Int32.toInt_ofInt_of_le (by omega) (by omega), Int32.toInt_ofInt_of_le (by omega) (by omega), Int.tdiv_eq_ediv_of_nonneg x0]
  exact Int.bmod_eq_of_le (by omega) (by omega)
set_option maxRecDepth 100000 in
set_option maxHeartbeats 1000000 in
theorem pw_rem_nn {x y : Int} (x0 : 0 ≤ x) (x1 : x ≤ 2147483647) (y0 : 0 < y) (y1 : y ≤ 2147483647) : pw_rem x y = x % y := by
  have h := pw_div_nn x0 x1 y0 y1
  unfold pw_div at h
  have m0 : 0 ≤ x % y := Int.emod_nonneg _ (by omega)
  have m1 : x % y < y := Int.emod_lt_of_pos _ y0
  have e : x - x / y * y = x % y := by have := Int.mul_ediv_add_emod x y; rw [Int.mul_comm] at this; omega
  have d0 : 0 ≤ x / y * y := Int.mul_nonneg (Int.ediv_nonneg x0 (by omega)) (by omega)
  unfold pw_rem
  rw [Int32.toInt_sub, Int32.toInt_mul, h, Int32.toInt_ofInt_of_le (by omega) (by omega), Int32.toInt_ofInt_of_le (by omega) (by omega), Int.bmod_eq_of_le (n := x / y * y) (by omega) (by omega), e]
  exact Int.bmod_eq_of_le (by omega) (by omega)
/-- the facts and one pair more -/
def EQ1 (F : FS) (fs : Int) (u v : Tm) (x y : Tm) : Prop := EQ F fs x y ∨ (x = u ∧ y = v)
def LInv (F : FS) (fs : Int) (tb : Int → Tm) (z a b : Int) (I0 I : PIm) : Prop := (∀ q, q ≠ 137 → I q = I0 q) ∧ RtOK (I 137) z ∧ RtS (I 137) z tb (Cl (UT tb z) (EQ1 F fs (tb a) (tb b)))
set_option maxRecDepth 100000 in
set_option maxHeartbeats 1000000 in
theorem LInv.join {F : FS} {fs : Int} {tb : Int → Tm} {z a b x y : Int} {I0 I I' : PIm} (h : LInv F fs tb z a b I0 I) (fr : ∀ q, q ≠ 137 → I' q = I q) (hm : ∀ i : Int, 0 ≤ i → i < z → I' 137 i = mrg (I 137) y x i) (x0 : 0 ≤ x) (x1 : x < z) (y0 : 0 ≤ y) (y1 : y < z) (hc : Cl (UT tb z) (EQ1 F fs (tb a) (tb b)) (tb x) (tb y)) : LInv F fs tb z a b I0 I' ∧ RtR (I 137) (I' 137) z ∧ I' 137 x = I' 137 y := by
  obtain ⟨h1, h2, h3⟩ := h
  have cc := Cl.cc (UT tb z) (EQ1 F fs (tb a) (tb b))
  refine ⟨⟨fun q hq => by rw [fr q hq, h1 q hq], (mrg_ok h2 y0 y1 x0 x1).congr hm, (mrg_s cc h3 y0 y1 x0 x1 (cc.2.1 _ _ hc)).congr hm⟩, (mrg_r (I 137) z y x).congr hm, ?_⟩
  rw [hm x x0 x1, hm y y0 y1]
  exact (mrg_eq (I 137) y x).symm
set_option maxRecDepth 100000 in
set_option maxHeartbeats 1000000 in
theorem c_X11_laysSame (d : Nat) {I0 : PIm} {zn : Nat} {tb : Int → Tm} {F : FS} {fs a b : Int} (M : MAt Γ R) (hz : I0 112 13 = zn) (hz2 : zn ≤ 200) (T : MTab I0 zn tb) (hF : MFcts I0 F tb zn) (ha : 0 ≤ a ∧ a < zn) (hb : 0 ≤ b ∧ b < zn) : PC sc mX11_laysSame (d + 1) 0 0 [.inr (some 112), .inl fs, .inl a, .inl b] Γ I0 R (fun v Γ' I' R' => v = none ∧ Γ' = Γ ∧ R' = R ∧ (∀ q, q ≠ 137 → I' q = I0 q) ∧ KC (I' 137) zn tb (EQ1 F fs (tb a) (tb b))) := by
  obtain ⟨f1, f2, f3⟩ := id hF
  have h4 := T.1
  have cc := Cl.cc (UT tb zn) (EQ1 F fs (tb a) (tb b))
  have zz : ∀ x y : Int, 0 ≤ x → x < zn → 0 ≤ y → y < zn → 0 ≤ x * zn + y ∧ x * zn + y < (zn : Int) * zn := by
    intro x y x0 x1 y0 y1
    have h1 : x * zn ≤ ((zn : Int) - 1) * zn := Int.mul_le_mul_of_nonneg_right (by omega) (by omega)
    have h2 : 0 ≤ x * (zn : Int) := Int.mul_nonneg x0 (by omega)
    have h3 : ((zn : Int) - 1) * zn = (zn : Int) * zn - zn := by rw [Int.sub_mul, Int.one_mul]
    omega
  have zsq : (zn : Int) * zn ≤ 40000 := by
    have h1 : (zn : Int) * zn ≤ 200 * zn := Int.mul_le_mul_of_nonneg_right (by omega) (by omega)
    omega
  have zpos : 0 ≤ (zn : Int) * zn := Int.mul_nonneg (by omega) (by omega)
  -- the passes
  have outer : ∀ (N : Nat) (I : PIm) (o : Option PV), cnt (I 137) zn = N → LInv F fs tb zn a b I0 I → (∀ k : Int, 0 ≤ k → k < F.1 → inb fs k → F.2.1 k = 1 → I 137 (I0 114 k) = I 137 (I0 115 k)) → I 137 a = I 137 b → PW sc mX11_laysSame (d + 1) 0 0 (fun v Γ' I' R' => v = none ∧ Γ' = Γ ∧ R' = R ∧ (∀ q, q ≠ 137 → I' q = I0 q) ∧ KC (I' 137) zn tb (EQ1 F fs (tb a) (tb b))) 91 [some (.inr (some 112)), some (.inl fs), some (.inl a), some (.inl b), some (.inl 1), o] [] Γ I R := by
    intro N
    induction N using Nat.strongRecOn with
    | _ N ih =>
      intro I1 o hN L1 hf1 hab1
      have inner : ∀ (N2 k : Nat) (I : PIm) (g : Int), (zn * zn - k) = N2 → k ≤ zn * zn → LInv F fs tb zn a b I0 I → RtR (I1 137) (I 137) zn → ((g = 0 ∧ I = I1 ∧ ∀ x y : Int, 0 ≤ x → x < zn → 0 ≤ y → y < zn → x * zn + y < k → ¬ Mpar I1 x y) ∨ (g = 1 ∧ cnt (I 137) zn < N)) → PW sc mX11_laysSame (d + 1) 0 0 (fun v Γ' I' R' => v = none ∧ Γ' = Γ ∧ R' = R ∧ (∀ q, q ≠ 137 → I' q = I0 q) ∧ KC (I' 137) zn tb (EQ1 F fs (tb a) (tb b))) 102 [some (.inr (some 112)), some (.inl fs), some (.inl a), some (.inl b), some (.inl g), some (.inl (k : Int))] [] Γ I R := by
        intro N2
        induction N2 using Nat.strongRecOn with
        | _ N2 ih2 =>
          intro k I g hN2 hk L rr hg
          have ekk : ((zn * zn : Nat) : Int) = (zn : Int) * zn := by simp
          have e13 : I 112 13 = zn := by rw [L.1 112 (by omega)]; exact hz
          have TI : MTab I zn tb := T.cg (fun q g1 g2 i _ _ => by rw [L.1 q (by omega)])
          by_cases hl : k < zn * zn
          · have qd : 0 ≤ (k : Int) / zn ∧ (k : Int) / zn < zn := ⟨Int.ediv_nonneg (by omega) (by omega), Int.ediv_lt_of_lt_mul (by omega) (by omega)⟩
            have qm : 0 ≤ (k : Int) % zn ∧ (k : Int) % zn < zn := ⟨Int.emod_nonneg _ (by omega), Int.emod_lt_of_pos _ (by omega)⟩
            have qe : (k : Int) / zn * zn + (k : Int) % zn = k := by rw [Int.mul_comm]; exact Int.mul_ediv_add_emod _ _
            have PA := c_X11_areParted (sc := sc) (Γ := Γ) (R := R) (I := I) d (a := (k : Int) / zn) (b := (k : Int) % zn) M TI hz2 L.2.1 qd qm
            have JO := c_X11_joins (sc := sc) (Γ := Γ) (R := R) (I0 := I) d (a := (k : Int) / zn) (b := (k : Int) % zn) M e13 hz2 L.2.1 qd qm
            have dv : pw_div (k : Int) zn = (k : Int) / zn := pw_div_nn (by omega) (by omega) (by omega) (by omega)
            have rm : pw_rem (k : Int) zn = (k : Int) % zn := pw_rem_nn (by omega) (by omega) (by omega) (by omega)
            refine PW.iload (pc := 102) dX11_laysSame_102 rfl ?_
            refine PW.aload_n (pc := 104) dX11_laysSame_104 rfl ?_
            refine PW.geti (pc := 105) dX11_laysSame_105 fl_X11_112 (by decide) M.g112 ?_
            refine PW.aload_n (pc := 108) dX11_laysSame_108 rfl ?_
            refine PW.geti (pc := 109) dX11_laysSame_109 fl_X11_112 (by decide) M.g112 ?_
            rw [e13]
            refine PW.imul (pc := 112) dX11_laysSame_112 ?_
            refine PW.icmp_ge (pc := 113) (tgt := 164) dX11_laysSame_113 (by decide) (by first | omega | exact rg_of _) (by first | omega | exact rg_of _) (fun c_113 => ?_) (fun c_113 => ?_)
            · omega
            · refine PW.aload_n (pc := 116) dX11_laysSame_116 rfl ?_
              refine PW.iload (pc := 117) dX11_laysSame_117 rfl ?_
              refine PW.aload_n (pc := 119) dX11_laysSame_119 rfl ?_
              refine PW.geti (pc := 120) dX11_laysSame_120 fl_X11_112 (by decide) M.g112 ?_
              rw [e13]
              refine PW.idiv (pc := 123) dX11_laysSame_123 (by first | omega | exact rg_of _) (by omega) ?_
              rw [dv]
              refine PW.iload (pc := 124) dX11_laysSame_124 rfl ?_
              refine PW.aload_n (pc := 126) dX11_laysSame_126 rfl ?_
              refine PW.geti (pc := 127) dX11_laysSame_127 fl_X11_112 (by decide) M.g112 ?_
              rw [e13]
              refine PW.irem (pc := 130) dX11_laysSame_130 (by first | omega | exact rg_of _) (by omega) ?_
              rw [rm]
              refine PW.invV0x (pc := 131) dX11_laysSame_131 mv_X11_179 (PA) M.g112 rfl rfl (Nat.le_of_ble_eq_true rfl) ?_
              refine PW.if_eq (pc := 134) (tgt := 158) dX11_laysSame_134 (by decide) (rg_bi _) (fun c_134 => ?_) (fun c_134 => ?_)
              · refine PW.iinc (pc := 158) dX11_laysSame_158 rfl (by decide) ?_
                refine PW.goto (pc := 161) (tgt := 102) dX11_laysSame_161 (by decide) ?_
                first
                | (refine ih2 (zn * zn - (k + 1)) (by omega) (k + 1) I g rfl (by omega) L rr ?_
                   rcases hg with ⟨g0, rfl, hno⟩ | hg
                   · refine Or.inl ⟨g0, rfl, fun x y x0 x1 y0 y1 hxy => ?_⟩
                     by_cases e : x * zn + y = (k : Int)
                     · have ex : x = (k : Int) / zn := by rw [← e, Int.add_comm, Int.add_mul_ediv_right _ _ (by omega), Int.ediv_eq_zero_of_lt y0 y1]; omega
                       have ey : y = (k : Int) % zn := by rw [← e, Int.add_comm, Int.add_mul_emod_self_right, Int.emod_eq_of_lt y0 y1]
                       rw [ex, ey]; exact bi0 c_134
                     · exact hno x y x0 x1 y0 y1 (by omega)
                   · exact Or.inr hg)
                | (have pr := bi1 c_134
                   have sd := Mpar.sound TI qd qm pr _ cc L.2.2
                   obtain ⟨L2, r2, -⟩ := L.join fr hm qd.1 qd.2 qm.1 qm.2 sd
                   have c2 : cnt (I' 137) zn < cnt (I 137) zn := by
                     rw [cnt_congr zn hm]
                     exact mrg_cnt L.2.1 qm.1 qm.2 qd.1 qd.2 (fun e => pr.2.2.1 e.symm)
                   refine ih2 (zn * zn - (k + 1)) (by omega) (k + 1) I' 1 rfl (by omega) L2 (rr.tr r2) (Or.inr ⟨rfl, ?_⟩)
                   rcases hg with ⟨g0, rfl, hno⟩ | ⟨-, hg⟩
                   · omega
                   · omega)
              · refine PW.aload_n (pc := 137) dX11_laysSame_137 rfl ?_
                refine PW.iload (pc := 138) dX11_laysSame_138 rfl ?_
                refine PW.aload_n (pc := 140) dX11_laysSame_140 rfl ?_
                refine PW.geti (pc := 141) dX11_laysSame_141 fl_X11_112 (by decide) M.g112 ?_
                rw [e13]
                refine PW.idiv (pc := 144) dX11_laysSame_144 (by first | omega | exact rg_of _) (by omega) ?_
                rw [dv]
                refine PW.iload (pc := 145) dX11_laysSame_145 rfl ?_
                refine PW.aload_n (pc := 147) dX11_laysSame_147 rfl ?_
                refine PW.geti (pc := 148) dX11_laysSame_148 fl_X11_112 (by decide) M.g112 ?_
                rw [e13]
                refine PW.irem (pc := 151) dX11_laysSame_151 (by first | omega | exact rg_of _) (by omega) ?_
                rw [rm]
                refine PW.invV0 (pc := 152) dX11_laysSame_152 mv_X11_175 (JO) M.g112 rfl rfl (Nat.le_of_ble_eq_true rfl) ?_
                (rintro v Γ' I' R' ⟨rfl, rfl, rfl, fr, hm⟩)
                refine PW.iconst (pc := 155) dX11_laysSame_155 ?_
                refine PW.istore (pc := 156) dX11_laysSame_156 (by decide) ?_
                refine PW.iinc (pc := 158) dX11_laysSame_158 rfl (by decide) ?_
                refine PW.goto (pc := 161) (tgt := 102) dX11_laysSame_161 (by decide) ?_
                first
                | (refine ih2 (zn * zn - (k + 1)) (by omega) (k + 1) I g rfl (by omega) L rr ?_
                   rcases hg with ⟨g0, rfl, hno⟩ | hg
                   · refine Or.inl ⟨g0, rfl, fun x y x0 x1 y0 y1 hxy => ?_⟩
                     by_cases e : x * zn + y = (k : Int)
                     · have ex : x = (k : Int) / zn := by rw [← e, Int.add_comm, Int.add_mul_ediv_right _ _ (by omega), Int.ediv_eq_zero_of_lt y0 y1]; omega
                       have ey : y = (k : Int) % zn := by rw [← e, Int.add_comm, Int.add_mul_emod_self_right, Int.emod_eq_of_lt y0 y1]
                       rw [ex, ey]; exact bi0 c_134
                     · exact hno x y x0 x1 y0 y1 (by omega)
                   · exact Or.inr hg)
                | (have pr := bi1 c_134
                   have sd := Mpar.sound TI qd qm pr _ cc L.2.2
                   obtain ⟨L2, r2, -⟩ := L.join fr hm qd.1 qd.2 qm.1 qm.2 sd
                   have c2 : cnt (I' 137) zn < cnt (I 137) zn := by
                     rw [cnt_congr zn hm]
                     exact mrg_cnt L.2.1 qm.1 qm.2 qd.1 qd.2 (fun e => pr.2.2.1 e.symm)
                   refine ih2 (zn * zn - (k + 1)) (by omega) (k + 1) I' 1 rfl (by omega) L2 (rr.tr r2) (Or.inr ⟨rfl, ?_⟩)
                   rcases hg with ⟨g0, rfl, hno⟩ | ⟨-, hg⟩
                   · omega
                   · omega)
          · obtain rfl : k = zn * zn := by omega
            have hf2 : ∀ k : Int, 0 ≤ k → k < F.1 → inb fs k → F.2.1 k = 1 → I 137 (I0 114 k) = I 137 (I0 115 k) := fun k k0 k1 k2 k3 => by
              obtain ⟨-, ⟨c2, c3, c4⟩, c5, c6, c7⟩ := f3 k k0 k1
              exact rr _ _ c2 c3 c5 c6 (hf1 k k0 k1 k2 k3)
            have hab2 : I 137 a = I 137 b := rr _ _ ha.1 ha.2 hb.1 hb.2 hab1
            rcases hg with ⟨rfl, rfl, hno⟩ | ⟨rfl, hg⟩
            · have RC := Mpar.closed TI (fun x y x0 x1 y0 y1 => hno x y x0 x1 y0 y1 (by have := (zz x y x0 x1 y0 y1).2; omega))
              refine PW.iload (pc := 102) dX11_laysSame_102 rfl ?_
              refine PW.aload_n (pc := 104) dX11_laysSame_104 rfl ?_
              refine PW.geti (pc := 105) dX11_laysSame_105 fl_X11_112 (by decide) M.g112 ?_
              refine PW.aload_n (pc := 108) dX11_laysSame_108 rfl ?_
              refine PW.geti (pc := 109) dX11_laysSame_109 fl_X11_112 (by decide) M.g112 ?_
              rw [e13]
              refine PW.imul (pc := 112) dX11_laysSame_112 ?_
              refine PW.icmp_ge (pc := 113) (tgt := 164) dX11_laysSame_113 (by decide) (by first | omega | exact rg_of _) (by first | omega | exact rg_of _) (fun c_113 => ?_) (fun c_113 => ?_)
              · refine PW.goto (pc := 164) (tgt := 91) dX11_laysSame_164 (by decide) ?_
                refine PW.iload (pc := 91) dX11_laysSame_91 rfl ?_
                refine PW.if_eq (pc := 93) (tgt := 167) dX11_laysSame_93 (by decide) (by first | omega | exact rg_of _) (fun c_93 => ?_) (fun c_93 => ?_)
                · exact PW.vreturn (pc := 167) dX11_laysSame_167 rfl (⟨rfl, rfl, rfl, L.1, L.2.1, fun i j i0 i1 j0 j1 => ⟨L.2.2 i j i0 i1 j0 j1, fun q => rt_complete T.ptab RC (fun x y e => by
                    rcases e with ⟨k, k0, k1, k2, k3, rfl, rfl⟩ | ⟨rfl, rfl⟩
                    · obtain ⟨-, ⟨c2, c3, c4⟩, c5, c6, c7⟩ := f3 k k0 k1
                      exact ⟨_, _, c2, c3, c5, c6, c4, c7, hf2 k k0 k1 k2 k3⟩
                    · exact ⟨a, b, ha.1, ha.2, hb.1, hb.2, rfl, rfl, hab2⟩) i0 i1 j0 j1 q⟩⟩)
                · omega
              · omega
            · have nx := ih _ hg I (some (.inl ((zn * zn : Nat) : Int))) rfl L hf2 hab2
              refine PW.iload (pc := 102) dX11_laysSame_102 rfl ?_
              refine PW.aload_n (pc := 104) dX11_laysSame_104 rfl ?_
              refine PW.geti (pc := 105) dX11_laysSame_105 fl_X11_112 (by decide) M.g112 ?_
              refine PW.aload_n (pc := 108) dX11_laysSame_108 rfl ?_
              refine PW.geti (pc := 109) dX11_laysSame_109 fl_X11_112 (by decide) M.g112 ?_
              rw [e13]
              refine PW.imul (pc := 112) dX11_laysSame_112 ?_
              refine PW.icmp_ge (pc := 113) (tgt := 164) dX11_laysSame_113 (by decide) (by first | omega | exact rg_of _) (by first | omega | exact rg_of _) (fun c_113 => ?_) (fun c_113 => ?_)
              · refine PW.goto (pc := 164) (tgt := 91) dX11_laysSame_164 (by decide) ?_
                exact nx
              · omega
      refine PW.iload (pc := 91) dX11_laysSame_91 rfl ?_
      refine PW.if_eq (pc := 93) (tgt := 167) dX11_laysSame_93 (by decide) (by first | omega | exact rg_of _) (fun c_93 => ?_) (fun c_93 => ?_)
      · omega
      · refine PW.iconst (pc := 96) dX11_laysSame_96 ?_
        refine PW.istore (pc := 97) dX11_laysSame_97 (by decide) ?_
        refine PW.iconst (pc := 99) dX11_laysSame_99 ?_
        refine PW.istore (pc := 100) dX11_laysSame_100 (by decide) ?_
        exact inner (zn * zn) 0 I1 0 rfl (by omega) L1 (RtR.rf _ _) (Or.inl ⟨rfl, rfl, fun x y x0 x1 y0 y1 hxy => by have := (zz x y x0 x1 y0 y1).1; omega⟩)
  -- the facts
  have facts : ∀ (N k : Nat) (I : PIm) (o : Option PV), F.1 - k = N → k ≤ F.1 → LInv F fs tb zn a b I0 I → (∀ k' : Int, 0 ≤ k' → k' < k → inb fs k' → F.2.1 k' = 1 → I 137 (I0 114 k') = I 137 (I0 115 k')) → PW sc mX11_laysSame (d + 1) 0 0 (fun v Γ' I' R' => v = none ∧ Γ' = Γ ∧ R' = R ∧ (∀ q, q ≠ 137 → I' q = I0 q) ∧ KC (I' 137) zn tb (EQ1 F fs (tb a) (tb b))) 30 [some (.inr (some 112)), some (.inl fs), some (.inl a), some (.inl b), some (.inl (k : Int)), o] [] Γ I R := by
    intro N
    induction N using Nat.strongRecOn with
    | _ N ih =>
      intro k I o hN hk L hf1
      have e1 : I 112 1 = F.1 := by rw [L.1 112 (by omega)]; exact f1
      have e13 : I 112 13 = zn := by rw [L.1 112 (by omega)]; exact hz
      by_cases hl : k < F.1
      · obtain ⟨⟨x1, x2⟩, ⟨c2, c3, c4⟩, c5, c6, c7⟩ := f3 k (by omega) (by omega)
        have w1 : I 113 k = 1 - F.2.1 k := by rw [L.1 113 (by omega)]; exact x1
        have w2 : I 114 k = I0 114 k := by rw [L.1 114 (by omega)]
        have w3 : I 115 k = I0 115 k := by rw [L.1 115 (by omega)]
        have JO := c_X11_joins (sc := sc) (Γ := Γ) (R := R) (I0 := I) d (a := I0 114 k) (b := I0 115 k) M e13 hz2 L.2.1 ⟨c2, c3⟩ ⟨c5, c6⟩
        refine PW.iload (pc := 30) dX11_laysSame_30 rfl ?_
        refine PW.aload_n (pc := 32) dX11_laysSame_32 rfl ?_
        refine PW.geti (pc := 33) dX11_laysSame_33 fl_X11_162 (by decide) M.g112 ?_
        rw [e1]
        refine PW.icmp_ge (pc := 36) (tgt := 82) dX11_laysSame_36 (by decide) (by first | omega | exact rg_of _) (by first | omega | exact rg_of _) (fun c_36 => ?_) (fun c_36 => ?_)
        · omega
        · refine PW.iload_n (pc := 39) dX11_laysSame_39 rfl ?_
          refine PW.iload (pc := 40) dX11_laysSame_40 rfl ?_
          refine PW.invS0x (pc := 42) dX11_laysSame_42 ms_X11_108 (c_X11_has _) rfl rfl (Nat.le_of_ble_eq_true rfl) ?_
          refine PW.if_eq (pc := 45) (tgt := 76) dX11_laysSame_45 (by decide) (rg_bi _) (fun c_45 => ?_) (fun c_45 => ?_)
          · refine PW.iinc (pc := 76) dX11_laysSame_76 rfl (by decide) ?_
            refine PW.goto (pc := 79) (tgt := 30) dX11_laysSame_79 (by decide) ?_
            first
            | exact ih (F.1 - (k + 1)) (by omega) (k + 1) I _ rfl (by omega) L (fun k' q0 q1 q2 q3 => by
                by_cases e : k' = (k : Int)
                · rw [e] at q2 q3
                  first
                  | exact absurd (show pw_and (pw_shr fs (k : Int)) 1 = 1 from q2) (bi0 c_45)
                  | omega
                · exact hf1 k' q0 (by omega) q2 q3)
            | (obtain ⟨L2, r2, e2⟩ := L.join fr hm c2 c3 c5 c6 (Cl.of (Or.inl ⟨k, by omega, by omega, (show pw_and (pw_shr fs (k : Int)) 1 = 1 from bi1 c_45), by omega, c4, c7⟩))
               exact ih (F.1 - (k + 1)) (by omega) (k + 1) I' _ rfl (by omega) L2 (fun k' q0 q1 q2 q3 => by
                 by_cases e : k' = (k : Int)
                 · rw [e]; exact e2
                 · obtain ⟨-, ⟨d2, d3, d4⟩, d5, d6, d7⟩ := f3 k' q0 (by omega)
                   exact r2 _ _ d2 d3 d5 d6 (hf1 k' q0 (by omega) q2 q3)))
          · refine PW.aload_n (pc := 48) dX11_laysSame_48 rfl ?_
            refine PW.getr (pc := 49) dX11_laysSame_49 fl_X11_7 M.g112 M.r2 ?_
            refine PW.iload (pc := 52) dX11_laysSame_52 rfl ?_
            refine PW.zald (pc := 54) dX11_laysSame_54 M.g113 (by omega) (by omega) (by omega) ?_
            rw [w1]
            refine PW.if_ne (pc := 55) (tgt := 76) dX11_laysSame_55 (by decide) (by first | omega | exact rg_of _) (fun c_55 => ?_) (fun c_55 => ?_)
            · refine PW.iinc (pc := 76) dX11_laysSame_76 rfl (by decide) ?_
              refine PW.goto (pc := 79) (tgt := 30) dX11_laysSame_79 (by decide) ?_
              first
              | exact ih (F.1 - (k + 1)) (by omega) (k + 1) I _ rfl (by omega) L (fun k' q0 q1 q2 q3 => by
                  by_cases e : k' = (k : Int)
                  · rw [e] at q2 q3
                    first
                    | exact absurd (show pw_and (pw_shr fs (k : Int)) 1 = 1 from q2) (bi0 c_45)
                    | omega
                  · exact hf1 k' q0 (by omega) q2 q3)
              | (obtain ⟨L2, r2, e2⟩ := L.join fr hm c2 c3 c5 c6 (Cl.of (Or.inl ⟨k, by omega, by omega, (show pw_and (pw_shr fs (k : Int)) 1 = 1 from bi1 c_45), by omega, c4, c7⟩))
                 exact ih (F.1 - (k + 1)) (by omega) (k + 1) I' _ rfl (by omega) L2 (fun k' q0 q1 q2 q3 => by
                   by_cases e : k' = (k : Int)
                   · rw [e]; exact e2
                   · obtain ⟨-, ⟨d2, d3, d4⟩, d5, d6, d7⟩ := f3 k' q0 (by omega)
                     exact r2 _ _ d2 d3 d5 d6 (hf1 k' q0 (by omega) q2 q3)))
            · refine PW.aload_n (pc := 58) dX11_laysSame_58 rfl ?_
              refine PW.aload_n (pc := 59) dX11_laysSame_59 rfl ?_
              refine PW.getr (pc := 60) dX11_laysSame_60 fl_X11_13 M.g112 M.r3 ?_
              refine PW.iload (pc := 63) dX11_laysSame_63 rfl ?_
              refine PW.iald (pc := 65) dX11_laysSame_65 M.g114 (by omega) (by omega) (by omega) ?_
              rw [w2]
              refine PW.aload_n (pc := 66) dX11_laysSame_66 rfl ?_
              refine PW.getr (pc := 67) dX11_laysSame_67 fl_X11_17 M.g112 M.r4 ?_
              refine PW.iload (pc := 70) dX11_laysSame_70 rfl ?_
              refine PW.iald (pc := 72) dX11_laysSame_72 M.g115 (by omega) (by omega) (by omega) ?_
              rw [w3]
              refine PW.invV0 (pc := 73) dX11_laysSame_73 mv_X11_175 (JO) M.g112 rfl rfl (Nat.le_of_ble_eq_true rfl) ?_
              (rintro v Γ' I' R' ⟨rfl, rfl, rfl, fr, hm⟩)
              refine PW.iinc (pc := 76) dX11_laysSame_76 rfl (by decide) ?_
              refine PW.goto (pc := 79) (tgt := 30) dX11_laysSame_79 (by decide) ?_
              first
              | exact ih (F.1 - (k + 1)) (by omega) (k + 1) I _ rfl (by omega) L (fun k' q0 q1 q2 q3 => by
                  by_cases e : k' = (k : Int)
                  · rw [e] at q2 q3
                    first
                    | exact absurd (show pw_and (pw_shr fs (k : Int)) 1 = 1 from q2) (bi0 c_45)
                    | omega
                  · exact hf1 k' q0 (by omega) q2 q3)
              | (obtain ⟨L2, r2, e2⟩ := L.join fr hm c2 c3 c5 c6 (Cl.of (Or.inl ⟨k, by omega, by omega, (show pw_and (pw_shr fs (k : Int)) 1 = 1 from bi1 c_45), by omega, c4, c7⟩))
                 exact ih (F.1 - (k + 1)) (by omega) (k + 1) I' _ rfl (by omega) L2 (fun k' q0 q1 q2 q3 => by
                   by_cases e : k' = (k : Int)
                   · rw [e]; exact e2
                   · obtain ⟨-, ⟨d2, d3, d4⟩, d5, d6, d7⟩ := f3 k' q0 (by omega)
                     exact r2 _ _ d2 d3 d5 d6 (hf1 k' q0 (by omega) q2 q3)))
      · obtain rfl : k = F.1 := by omega
        have JO := c_X11_joins (sc := sc) (Γ := Γ) (R := R) (I0 := I) d (a := a) (b := b) M e13 hz2 L.2.1 ha hb
        refine PW.iload (pc := 30) dX11_laysSame_30 rfl ?_
        refine PW.aload_n (pc := 32) dX11_laysSame_32 rfl ?_
        refine PW.geti (pc := 33) dX11_laysSame_33 fl_X11_162 (by decide) M.g112 ?_
        rw [e1]
        refine PW.icmp_ge (pc := 36) (tgt := 82) dX11_laysSame_36 (by decide) (by first | omega | exact rg_of _) (by first | omega | exact rg_of _) (fun c_36 => ?_) (fun c_36 => ?_)
        · refine PW.aload_n (pc := 82) dX11_laysSame_82 rfl ?_
          refine PW.iload_n (pc := 83) dX11_laysSame_83 rfl ?_
          refine PW.iload_n (pc := 84) dX11_laysSame_84 rfl ?_
          refine PW.invV0 (pc := 85) dX11_laysSame_85 mv_X11_175 (JO) M.g112 rfl rfl (Nat.le_of_ble_eq_true rfl) ?_
          (rintro v Γ' I' R' ⟨rfl, rfl, rfl, fr, hm⟩)
          obtain ⟨L2, r2, e2⟩ := L.join fr hm ha.1 ha.2 hb.1 hb.2 (Cl.of (Or.inr ⟨rfl, rfl⟩))
          refine PW.iconst (pc := 88) dX11_laysSame_88 ?_
          refine PW.istore (pc := 89) dX11_laysSame_89 (by decide) ?_
          exact outer _ I' _ rfl L2 (fun k q0 q1 q2 q3 => by
            obtain ⟨-, ⟨d2, d3, d4⟩, d5, d6, d7⟩ := f3 k q0 q1
            exact r2 _ _ d2 d3 d5 d6 (hf1 k q0 q1 q2 q3)) e2
        · omega
  -- each alone
  have alone : ∀ (N k : Nat) (I : PIm) (o : Option PV), zn - k = N → k ≤ zn → (∀ q, q ≠ 137 → I q = I0 q) → (∀ i : Int, 0 ≤ i → i < k → I 137 i = i) → PW sc mX11_laysSame (d + 1) 0 0 (fun v Γ' I' R' => v = none ∧ Γ' = Γ ∧ R' = R ∧ (∀ q, q ≠ 137 → I' q = I0 q) ∧ KC (I' 137) zn tb (EQ1 F fs (tb a) (tb b))) 3 [some (.inr (some 112)), some (.inl fs), some (.inl a), some (.inl b), some (.inl (k : Int)), o] [] Γ I R := by
    intro N
    induction N using Nat.strongRecOn with
    | _ N ih =>
      intro k I o hN hk fr h1
      have e13 : I 112 13 = zn := by rw [fr 112 (by omega)]; exact hz
      by_cases hl : k < zn
      · refine PW.iload (pc := 3) dX11_laysSame_3 rfl ?_
        refine PW.aload_n (pc := 5) dX11_laysSame_5 rfl ?_
        refine PW.geti (pc := 6) dX11_laysSame_6 fl_X11_112 (by decide) M.g112 ?_
        rw [e13]
        refine PW.icmp_ge (pc := 9) (tgt := 27) dX11_laysSame_9 (by decide) (by first | omega | exact rg_of _) (by first | omega | exact rg_of _) (fun c_9 => ?_) (fun c_9 => ?_)
        · omega
        · refine PW.aload_n (pc := 12) dX11_laysSame_12 rfl ?_
          refine PW.getr (pc := 13) dX11_laysSame_13 fl_X11_83 M.g112 M.r36 ?_
          refine PW.iload (pc := 16) dX11_laysSame_16 rfl ?_
          refine PW.iload (pc := 18) dX11_laysSame_18 rfl ?_
          refine PW.iast (pc := 20) dX11_laysSame_20 M.g137 (by omega) (by omega) (by omega) ?_
          refine PW.iinc (pc := 21) dX11_laysSame_21 rfl (by decide) ?_
          refine PW.goto (pc := 24) (tgt := 3) dX11_laysSame_24 (by decide) ?_
          exact ih (zn - (k + 1)) (by omega) (k + 1) _ _ rfl (by omega) (fun q hq => by rw [pw_up_ne q hq, fr q hq]) (fun i i0 i1 => by
            by_cases e : i = (k : Int)
            · rw [e, pw_up_self]
            · rw [pw_up_other (by omega)]; exact h1 i i0 (by omega))
      · obtain rfl : k = zn := by omega
        refine PW.iload (pc := 3) dX11_laysSame_3 rfl ?_
        refine PW.aload_n (pc := 5) dX11_laysSame_5 rfl ?_
        refine PW.geti (pc := 6) dX11_laysSame_6 fl_X11_112 (by decide) M.g112 ?_
        rw [e13]
        refine PW.icmp_ge (pc := 9) (tgt := 27) dX11_laysSame_9 (by decide) (by first | omega | exact rg_of _) (by first | omega | exact rg_of _) (fun c_9 => ?_) (fun c_9 => ?_)
        · refine PW.iconst (pc := 27) dX11_laysSame_27 ?_
          refine PW.istore (pc := 28) dX11_laysSame_28 (by decide) ?_
          exact facts _ 0 I _ rfl (by omega) ⟨fr, fun i i0 i1 => by rw [h1 i i0 i1, h1 i i0 i1]; exact ⟨i0, i1, rfl⟩, fun i j i0 i1 j0 j1 e => by rw [h1 i i0 i1, h1 j j0 j1] at e; rw [e]; exact cc.1 _⟩ (fun k' q0 q1 => by omega)
        · omega
  refine PC.ofPW (by decide) (Nat.le_of_ble_eq_true rfl) ?_
  refine PW.iconst (pc := 0) dX11_laysSame_0 ?_
  refine PW.istore (pc := 1) dX11_laysSame_1 (by decide) ?_
  exact alone zn 0 I0 _ rfl (by omega) (fun _ _ => rfl) (fun i i0 i1 => by omega)
end MLAYS
