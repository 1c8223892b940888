section GOPIPED
variable {sc : PSc} {Γ : List PTy} {R : PRm}
set_option maxRecDepth 100000 in
set_option maxHeartbeats 4000000 in
theorem FlowQ.rd {I0 I : PIm} {h f : Nat} {tb0 tb : Int → Tm} {P : Int → Int} {lag fw w : Int} {k : Nat} (F : FlowQ I0 I h f tb0 tb P lag fw w k) (hk : k ≤ 6) : RdOK I h f tb P lag fw w k := ⟨hk, F.2.2.2.1, fun r r0 r1 => (F.2.2.2.2 r r0 r1).1⟩
set_option maxRecDepth 100000 in
set_option maxHeartbeats 4000000 in
theorem RdOK.congr {I I' : PIm} {h f : Nat} {tb : Int → Tm} {P : Int → Int} {lag fw w : Int} {k : Nat} (Q : RdOK I h f tb P lag fw w k) (h4 : ∀ j : Int, j < k → I' (f + 4) j = I (f + 4) j) (h5 : ∀ j : Int, j < k → I' (f + 5) j = I (f + 5) j) (h6 : ∀ j : Int, j < k → I' (f + 6) j = I (f + 6) j) (h3 : ∀ r, I' (f + 3) r = I (f + 3) r) (hz : I' h 5 = I h 5) : RdOK I' h f tb P lag fw w k := by
  obtain ⟨q0, q1, q2⟩ := Q
  refine ⟨q0, fun j j0 j1 => ?_, fun r r0 r1 => by rw [h3]; exact q2 r r0 r1⟩
  rw [h4 j j1, h5 j j1, h6 j j1, hz]
  exact q1 j j0 j1
set_option maxRecDepth 100000 in
set_option maxHeartbeats 4000000 in
theorem c_X2_goPiped (d : Nat) {I0 : PIm} {f p pp h N n : Nat} {tb0 : Int → Tm} {P : Int → Int} {lag fw w : Int} (F : FlowAt Γ R f) (G : ProgAt Γ R p) (hpp : Γ[pp]? = some (.inl 4)) (T : TermsAt Γ R h N) (TB : Tab I0 h (I0 h 5) tb0) (hP : ProgOK I0 p P n) (hN : I0 h 5 + n ≤ N) (hl : I0 pp 0 = lag) (hf : I0 pp 1 = fw) (hw : I0 pp 2 = w) (hl3 : 0 ≤ lag ∧ lag ≤ 3) (hwr : Rg w) (hd1 : f + 6 < h ∨ h + 5 < f) (hd2 : p + 1 < h ∨ h + 5 < p) (hd3 : p + 1 < f ∨ f + 6 < p) (hd4 : pp < f ∨ f + 6 < pp) (hd5 : pp < h ∨ h + 5 < pp) :
    PC sc mX2_goPiped (d + 4) 0 0 [.inr (some f), .inr (some p), .inr (some pp), .inr (some h)] Γ I0 R (fun v Γ' I' R' => v = none ∧ Γ' = Γ ∧ R' = R ∧ ∃ tb', FlowQ I0 I' h f tb0 tb' P lag fw w n) := by
  obtain ⟨f0, f1, f2, f3, f4, f5, f6, f7, f8, f9, f10, f11, f12⟩ := id F
  obtain ⟨p0, p1, p2⟩ := id G
  obtain ⟨hPn, hn6, hPc⟩ := id hP
  have t0 := T.1
  have t11 : N ≤ 200 := T.2.2.2.2.2.2.2.2.2.2.2
  have loop : ∀ (N1 k : Nat) (I : PIm) (tb : Int → Tm) (o1 o2 o3 o4 o5 : Option PV), n - k = N1 → k ≤ n → FlowQ I0 I h f tb0 tb P lag fw w k → PW sc mX2_goPiped (d + 4) 0 0 (fun v Γ' I' R' => v = none ∧ Γ' = Γ ∧ R' = R ∧ ∃ tb', FlowQ I0 I' h f tb0 tb' P lag fw w n) 38 [some (.inr (some f)), some (.inr (some p)), some (.inr (some pp)), some (.inr (some h)), some (.inl (fre (St P lag fw w) k)), some (.inl (k : Int)), o1, o2, o3, o4, o5] [] Γ I R := by
    intro N1
    induction N1 using Nat.strongRecOn with
    | _ N1 ih =>
      intro k I tb o1 o2 o3 o4 o5 hN1 hkn FP
      obtain ⟨g1, g2, g3, g4, g5⟩ := id FP
      have en : I p 1 = n := by rw [g3 p 1 (by omega) (by omega)]; exact hPn
      by_cases hk : k < n
      · obtain ⟨ec, oc⟩ := hPc (k : Int) (by omega) (by omega)
        have ec' : I (p + 1) (k : Int) = P (k : Int) := by rw [g3 (p + 1) _ (by omega) (by omega)]; exact ec
        have el : I pp 0 = lag := by rw [g3 pp 0 (by omega) (by omega)]; exact hl
        have ef : I pp 1 = fw := by rw [g3 pp 1 (by omega) (by omega)]; exact hf
        have ew : I pp 2 = w := by rw [g3 pp 2 (by omega) (by omega)]; exact hw
        have hkd := kd_rg oc
        have hss := ss_rg (P (k : Int))
        have htt := tt_rg (P (k : Int))
        have hdd := dd_rg (P (k : Int))
        have hfr := fre_rg P lag fw w k
        have hSt := St_eq P lag fw w k
        have hSr := St_rg' P lag fw w (k := (k : Int)) (by omega)
        have hN' : I h 5 < N := by omega
        have Q := FP.rd (by omega)
        have efr : fre (St P lag fw w) (k + 1) = St P lag fw w (k : Int) + 1 := by
          unfold fre
          rw [if_neg (by omega), show ((k + 1 : Nat) : Int) - 1 = (k : Int) by omega]
        generalize hI1 : pw_up I (f + 4) k (St P lag fw w k) = I1
        generalize hI2 : pw_up I1 (f + 5) k (-1) = I2
        have z2 : ∀ q z, q ≠ f + 4 → q ≠ f + 5 → I2 q z = I q z := fun q z q4 q5 => by rw [← hI2, pw_up_other (by omega), ← hI1, pw_up_other (by omega)]
        have s1 : I1 (f + 4) k = St P lag fw w k := by rw [← hI1, pw_up_self]
        have s2 : I2 (f + 4) k = St P lag fw w k := by rw [← hI2, pw_up_other (by omega), s1]
        have Q2 : RdOK I2 h f tb P lag fw w k := Q.congr (fun j j1 => by rw [← hI2, pw_up_other (by omega), ← hI1, pw_up_other (by omega)]) (fun j j1 => by rw [← hI2, pw_up_other (by omega), ← hI1, pw_up_other (by omega)]) (fun j j1 => z2 _ _ (by omega) (by omega)) (fun r => z2 _ _ (by omega) (by omega)) (z2 _ _ (by omega) (by omega))
        have T2 : Tab I2 h (I2 h 5) tb := by
          rw [z2 h 5 (by omega) (by omega)]
          exact g1.1.congr (fun q h0 h1 z => z2 _ _ (by omega) (by omega))
        have e25 := z2 h 5 (by omega) (by omega)
        have rest : ∀ o3 o4 o5 : Option PV, PW sc mX2_goPiped (d + 4) 0 0 (fun v Γ' I' R' => v = none ∧ Γ' = Γ ∧ R' = R ∧ ∃ tb', FlowQ I0 I' h f tb0 tb' P lag fw w n) 99 [some (.inr (some f)), some (.inr (some p)), some (.inr (some pp)), some (.inr (some h)), some (.inl (fre (St P lag fw w) k)), some (.inl (k : Int)), some (.inl (P (k : Int))), some (.inl (kd (P (k : Int)))), o3, o4, o5] [] Γ I1 R := by
          intro o3 o4 o5
          by_cases h0 : kd (P (k : Int)) = 0
          · refine PW.aload_n (pc := 99) dX2_goPiped_99 rfl ?_
            refine PW.getr (pc := 100) dX2_goPiped_100 fl_X2_21 (by first | assumption | rfl) (by first | assumption | rfl) ?_
            refine PW.iload (pc := 103) dX2_goPiped_103 rfl ?_
            refine PW.iald (pc := 105) dX2_goPiped_105 (by first | assumption | rfl) (by omega) (by omega) (by omega) ?_
            rw [s1]
            refine PW.iconst (pc := 106) dX2_goPiped_106 ?_
            refine PW.iadd (pc := 107) dX2_goPiped_107 ?_
            refine PW.istore (pc := 108) dX2_goPiped_108 (by decide) ?_
            refine PW.aload_n (pc := 110) dX2_goPiped_110 rfl ?_
            refine PW.getr (pc := 111) dX2_goPiped_111 fl_X2_24 (by first | assumption | rfl) (by first | assumption | rfl) ?_
            refine PW.iload (pc := 114) dX2_goPiped_114 rfl ?_
            refine PW.iconst (pc := 116) dX2_goPiped_116 ?_
            refine PW.iast (pc := 117) dX2_goPiped_117 (by first | assumption | rfl) (by omega) (by omega) (by omega) ?_
            rw [hI2]
            refine PW.iload (pc := 118) dX2_goPiped_118 rfl ?_
            refine PW.if_eq (pc := 120) (tgt := 210) dX2_goPiped_120 (by decide) (by first | omega | exact rg_of _) (fun c_120 => ?_) (fun c_120 => ?_)
            · refine PW.iinc (pc := 210) dX2_goPiped_210 rfl (by decide) ?_
              refine PW.goto (pc := 213) (tgt := 38) dX2_goPiped_213 (by decide) ?_
              rw [← efr]; exact ih (n - (k + 1)) (by omega) (k + 1) I2 tb _ _ _ _ _ rfl (by omega) (by rw [← hI2, ← hI1]; exact FP.stay h0 hd1)
            · omega
          · refine PW.aload_n (pc := 99) dX2_goPiped_99 rfl ?_
            refine PW.getr (pc := 100) dX2_goPiped_100 fl_X2_21 (by first | assumption | rfl) (by first | assumption | rfl) ?_
            refine PW.iload (pc := 103) dX2_goPiped_103 rfl ?_
            refine PW.iald (pc := 105) dX2_goPiped_105 (by first | assumption | rfl) (by omega) (by omega) (by omega) ?_
            rw [s1]
            refine PW.iconst (pc := 106) dX2_goPiped_106 ?_
            refine PW.iadd (pc := 107) dX2_goPiped_107 ?_
            refine PW.istore (pc := 108) dX2_goPiped_108 (by decide) ?_
            refine PW.aload_n (pc := 110) dX2_goPiped_110 rfl ?_
            refine PW.getr (pc := 111) dX2_goPiped_111 fl_X2_24 (by first | assumption | rfl) (by first | assumption | rfl) ?_
            refine PW.iload (pc := 114) dX2_goPiped_114 rfl ?_
            refine PW.iconst (pc := 116) dX2_goPiped_116 ?_
            refine PW.iast (pc := 117) dX2_goPiped_117 (by first | assumption | rfl) (by omega) (by omega) (by omega) ?_
            rw [hI2]
            refine PW.iload (pc := 118) dX2_goPiped_118 rfl ?_
            refine PW.if_eq (pc := 120) (tgt := 210) dX2_goPiped_120 (by decide) (by first | omega | exact rg_of _) (fun c_120 => ?_) (fun c_120 => ?_)
            · omega
            · refine PW.aload_n (pc := 123) dX2_goPiped_123 rfl ?_
              refine PW.iload (pc := 124) dX2_goPiped_124 rfl ?_
              refine PW.iload (pc := 126) dX2_goPiped_126 rfl ?_
              refine PW.invS0x (pc := 128) dX2_goPiped_128 ms_X2_43 (c_ss (d + 3) oc) rfl rfl (Nat.le_of_ble_eq_true rfl) ?_
              refine PW.aload_n (pc := 131) dX2_goPiped_131 rfl ?_
              refine PW.invV0 (pc := 132) dX2_goPiped_132 mv_X2_70 (c_X2_readBy (N := N) (d + 2) F hpp (by rw [z2 _ _ (by omega) (by omega)]; exact el) (by rw [z2 _ _ (by omega) (by omega)]; exact ef) hl3 Q2 (by omega) s2 T2 hss) (by first | assumption | rfl) rfl rfl (Nat.le_of_ble_eq_true rfl) ?_
              (rintro v Γ' I' R' ⟨rfl, rfl, rfl, ia, rfl, ia0, ia1, ia2⟩)
              refine PW.istore (pc := 135) dX2_goPiped_135 (by decide) ?_
              refine PW.aload_n (pc := 137) dX2_goPiped_137 rfl ?_
              refine PW.iload (pc := 138) dX2_goPiped_138 rfl ?_
              refine PW.iload (pc := 140) dX2_goPiped_140 rfl ?_
              refine PW.invS0x (pc := 142) dX2_goPiped_142 ms_X2_46 (c_tt (d + 3) oc) rfl rfl (Nat.le_of_ble_eq_true rfl) ?_
              refine PW.aload_n (pc := 145) dX2_goPiped_145 rfl ?_
              refine PW.invV0 (pc := 146) dX2_goPiped_146 mv_X2_70 (c_X2_readBy (N := N) (d + 2) F hpp (by rw [z2 _ _ (by omega) (by omega)]; exact el) (by rw [z2 _ _ (by omega) (by omega)]; exact ef) hl3 Q2 (by omega) s2 T2 htt) (by first | assumption | rfl) rfl rfl (Nat.le_of_ble_eq_true rfl) ?_
              (rintro v Γ' I' R' ⟨rfl, rfl, rfl, ib, rfl, ib0, ib1, ib2⟩)
              refine PW.istore (pc := 149) dX2_goPiped_149 (by decide) ?_
              refine PW.aload_n (pc := 151) dX2_goPiped_151 rfl ?_
              refine PW.getr (pc := 152) dX2_goPiped_152 fl_X2_27 (by first | assumption | rfl) (by first | assumption | rfl) ?_
              refine PW.iload (pc := 155) dX2_goPiped_155 rfl ?_
              refine PW.aload_n (pc := 157) dX2_goPiped_157 rfl ?_
              refine PW.iload (pc := 158) dX2_goPiped_158 rfl ?_
              refine PW.invS0x (pc := 160) dX2_goPiped_160 ms_X2_52 (c_X2_headOf (d + 3) (by omega)) rfl rfl (Nat.le_of_ble_eq_true rfl) ?_
              refine PW.iload (pc := 163) dX2_goPiped_163 rfl ?_
              refine PW.iload (pc := 165) dX2_goPiped_165 rfl ?_
              have et : piM P lag fw w (k : Int) = if (if kd (P (k : Int)) = 1 then 4 else 5) = (5 : Int) then tg (tb ia) (tb (if (if kd (P (k : Int)) = 1 then 4 else 5) = (5 : Int) then ib else ia)) else tf (tb ia) := by rw [piM_eq, ia2]; unfold mkT; by_cases h1 : kd (P (k : Int)) = 1; (· rw [if_pos h1, if_pos h1, if_neg (by decide)]); (· rw [if_neg h1, if_neg h1, if_pos rfl, if_pos rfl, ib2])
              refine PW.invV0 (pc := 167) dX2_goPiped_167 mv_X2_55 (c_X8_make (d + 1) T T2 (by omega) (by split <;> omega) ⟨ia0, ia1⟩ (by split <;> omega) (by omega) rfl et) (by first | assumption | rfl) rfl rfl (Nat.le_of_ble_eq_true rfl) ?_
              (rintro v Γ' I' R' ⟨rfl, rfl, i, tb', rfl, hM⟩)
              refine PW.iast (pc := 170) dX2_goPiped_170 (by first | assumption | rfl) (by omega) (by omega) (by omega) ?_
              refine PW.iload (pc := 171) dX2_goPiped_171 rfl ?_
              refine PW.invS0x (pc := 173) dX2_goPiped_173 ms_X2_49 (c_dd (d + 3) oc) rfl rfl (Nat.le_of_ble_eq_true rfl) ?_
              refine PW.istore (pc := 176) dX2_goPiped_176 (by decide) ?_
              refine PW.aload_n (pc := 178) dX2_goPiped_178 rfl ?_
              refine PW.getr (pc := 179) dX2_goPiped_179 fl_X2_24 (by first | assumption | rfl) (by first | assumption | rfl) ?_
              refine PW.iload (pc := 182) dX2_goPiped_182 rfl ?_
              refine PW.iload (pc := 184) dX2_goPiped_184 rfl ?_
              refine PW.iast (pc := 186) dX2_goPiped_186 (by first | assumption | rfl) (by omega) (by omega) (by omega) ?_
              refine PW.aload_n (pc := 187) dX2_goPiped_187 rfl ?_
              refine PW.getr (pc := 188) dX2_goPiped_188 fl_X2_18 (by first | assumption | rfl) (by first | assumption | rfl) ?_
              refine PW.iload (pc := 191) dX2_goPiped_191 rfl ?_
              refine PW.iload (pc := 193) dX2_goPiped_193 rfl ?_
              refine PW.iast (pc := 195) dX2_goPiped_195 (by first | assumption | rfl) (by omega) (by omega) (by omega) ?_
              refine PW.aload_n (pc := 196) dX2_goPiped_196 rfl ?_
              refine PW.getr (pc := 197) dX2_goPiped_197 fl_X2_15 (by first | assumption | rfl) (by first | assumption | rfl) ?_
              refine PW.iload (pc := 200) dX2_goPiped_200 rfl ?_
              refine PW.aload_n (pc := 202) dX2_goPiped_202 rfl ?_
              refine PW.getr (pc := 203) dX2_goPiped_203 fl_X2_27 (by first | assumption | rfl) (by first | assumption | rfl) ?_
              refine PW.iload (pc := 206) dX2_goPiped_206 rfl ?_
              refine PW.iald (pc := 208) dX2_goPiped_208 (by first | assumption | rfl) (by omega) (by omega) (by omega) ?_
              rw [pw_up_other (by omega), pw_up_other (by omega), pw_up_self]
              refine PW.iast (pc := 209) dX2_goPiped_209 (by first | assumption | rfl) (by omega) (by omega) (by omega) ?_
              refine PW.iinc (pc := 210) dX2_goPiped_210 rfl (by decide) ?_
              refine PW.goto (pc := 213) (tgt := 38) dX2_goPiped_213 (by decide) ?_
              rw [← efr]; exact ih (n - (k + 1)) (by omega) (k + 1) _ tb' _ _ _ _ _ rfl (by omega) (by rw [← hI2, ← hI1] at hM; exact FP.made h0 hM hd1)
        by_cases hw1 : w = 1
        · refine PW.iload (pc := 38) dX2_goPiped_38 rfl ?_
          refine PW.aload_n (pc := 40) dX2_goPiped_40 rfl ?_
          refine PW.geti (pc := 41) dX2_goPiped_41 fl_X2_30 (by decide) (by first | assumption | rfl) ?_
          rw [en]
          refine PW.icmp_ge (pc := 44) (tgt := 216) dX2_goPiped_44 (by decide) (by first | omega | exact rg_of _) (by first | omega | exact rg_of _) (fun c_44 => ?_) (fun c_44 => ?_)
          · omega
          · refine PW.iload (pc := 47) dX2_goPiped_47 rfl ?_
            refine PW.bipush (pc := 49) dX2_goPiped_49 (by decide) ?_
            refine PW.icmp_ge (pc := 51) (tgt := 216) dX2_goPiped_51 (by decide) (by first | omega | exact rg_of _) (by first | omega | exact rg_of _) (fun c_51 => ?_) (fun c_51 => ?_)
            · omega
            · refine PW.aload_n (pc := 54) dX2_goPiped_54 rfl ?_
              refine PW.getr (pc := 55) dX2_goPiped_55 fl_X2_36 (by first | assumption | rfl) (by first | assumption | rfl) ?_
              refine PW.iload (pc := 58) dX2_goPiped_58 rfl ?_
              refine PW.iald (pc := 60) dX2_goPiped_60 (by first | assumption | rfl) (by omega) (by omega) (by omega) ?_
              rw [ec']
              refine PW.istore (pc := 61) dX2_goPiped_61 (by decide) ?_
              refine PW.iload (pc := 63) dX2_goPiped_63 rfl ?_
              refine PW.invS0x (pc := 65) dX2_goPiped_65 ms_X2_39 (c_kd (d + 3) oc) rfl rfl (Nat.le_of_ble_eq_true rfl) ?_
              refine PW.istore (pc := 68) dX2_goPiped_68 (by decide) ?_
              refine PW.aload_n (pc := 70) dX2_goPiped_70 rfl ?_
              refine PW.getr (pc := 71) dX2_goPiped_71 fl_X2_21 (by first | assumption | rfl) (by first | assumption | rfl) ?_
              refine PW.iload (pc := 74) dX2_goPiped_74 rfl ?_
              refine PW.aload_n (pc := 76) dX2_goPiped_76 rfl ?_
              refine PW.geti (pc := 77) dX2_goPiped_77 fl_X2_61 (by decide) (by first | assumption | rfl) ?_
              rw [ew]
              refine PW.iconst (pc := 80) dX2_goPiped_80 ?_
              refine PW.icmp_ne (pc := 81) (tgt := 96) dX2_goPiped_81 (by decide) (by first | omega | exact rg_of _) (by first | omega | exact rg_of _) (fun c_81 => ?_) (fun c_81 => ?_)
              · omega
              · refine PW.aload_n (pc := 84) dX2_goPiped_84 rfl ?_
                refine PW.iload (pc := 85) dX2_goPiped_85 rfl ?_
                refine PW.iload (pc := 87) dX2_goPiped_87 rfl ?_
                refine PW.aload_n (pc := 89) dX2_goPiped_89 rfl ?_
                refine PW.invV0x (pc := 90) dX2_goPiped_90 mv_X2_66 (c_X2_waitFrom d F hpp el ef hl3 Q (by omega) oc) (by first | assumption | rfl) rfl rfl (Nat.le_of_ble_eq_true rfl) ?_
                refine PW.goto (pc := 93) (tgt := 98) dX2_goPiped_93 (by decide) ?_
                rw [show fre (St P lag fw w) k + wt P (St P lag fw w) lag fw k (fre (St P lag fw w) k) = St P lag fw w (k : Int) by rw [hSt, if_pos hw1]]
                refine PW.iast (pc := 98) dX2_goPiped_98 (by first | assumption | rfl) (by omega) (by omega) (by omega) ?_
                rw [hI1]; exact rest _ _ _
        · refine PW.iload (pc := 38) dX2_goPiped_38 rfl ?_
          refine PW.aload_n (pc := 40) dX2_goPiped_40 rfl ?_
          refine PW.geti (pc := 41) dX2_goPiped_41 fl_X2_30 (by decide) (by first | assumption | rfl) ?_
          rw [en]
          refine PW.icmp_ge (pc := 44) (tgt := 216) dX2_goPiped_44 (by decide) (by first | omega | exact rg_of _) (by first | omega | exact rg_of _) (fun c_44 => ?_) (fun c_44 => ?_)
          · omega
          · refine PW.iload (pc := 47) dX2_goPiped_47 rfl ?_
            refine PW.bipush (pc := 49) dX2_goPiped_49 (by decide) ?_
            refine PW.icmp_ge (pc := 51) (tgt := 216) dX2_goPiped_51 (by decide) (by first | omega | exact rg_of _) (by first | omega | exact rg_of _) (fun c_51 => ?_) (fun c_51 => ?_)
            · omega
            · refine PW.aload_n (pc := 54) dX2_goPiped_54 rfl ?_
              refine PW.getr (pc := 55) dX2_goPiped_55 fl_X2_36 (by first | assumption | rfl) (by first | assumption | rfl) ?_
              refine PW.iload (pc := 58) dX2_goPiped_58 rfl ?_
              refine PW.iald (pc := 60) dX2_goPiped_60 (by first | assumption | rfl) (by omega) (by omega) (by omega) ?_
              rw [ec']
              refine PW.istore (pc := 61) dX2_goPiped_61 (by decide) ?_
              refine PW.iload (pc := 63) dX2_goPiped_63 rfl ?_
              refine PW.invS0x (pc := 65) dX2_goPiped_65 ms_X2_39 (c_kd (d + 3) oc) rfl rfl (Nat.le_of_ble_eq_true rfl) ?_
              refine PW.istore (pc := 68) dX2_goPiped_68 (by decide) ?_
              refine PW.aload_n (pc := 70) dX2_goPiped_70 rfl ?_
              refine PW.getr (pc := 71) dX2_goPiped_71 fl_X2_21 (by first | assumption | rfl) (by first | assumption | rfl) ?_
              refine PW.iload (pc := 74) dX2_goPiped_74 rfl ?_
              refine PW.aload_n (pc := 76) dX2_goPiped_76 rfl ?_
              refine PW.geti (pc := 77) dX2_goPiped_77 fl_X2_61 (by decide) (by first | assumption | rfl) ?_
              rw [ew]
              refine PW.iconst (pc := 80) dX2_goPiped_80 ?_
              refine PW.icmp_ne (pc := 81) (tgt := 96) dX2_goPiped_81 (by decide) (by first | omega | exact rg_of _) (by first | omega | exact rg_of _) (fun c_81 => ?_) (fun c_81 => ?_)
              · refine PW.iload (pc := 96) dX2_goPiped_96 rfl ?_
                refine PW.iast (pc := 98) dX2_goPiped_98 (by first | assumption | rfl) (by omega) (by omega) (by omega) ?_
                rw [show pw_up I (f + 4) k (fre (St P lag fw w) k) = I1 by rw [← hI1, hSt, if_neg hw1]]; exact rest _ _ _
              · omega
      · obtain rfl : k = n := by omega
        refine PW.iload (pc := 38) dX2_goPiped_38 rfl ?_
        refine PW.aload_n (pc := 40) dX2_goPiped_40 rfl ?_
        refine PW.geti (pc := 41) dX2_goPiped_41 fl_X2_30 (by decide) (by first | assumption | rfl) ?_
        rw [en]
        refine PW.icmp_ge (pc := 44) (tgt := 216) dX2_goPiped_44 (by decide) (by first | omega | exact rg_of _) (by first | omega | exact rg_of _) (fun c_44 => ?_) (fun c_44 => ?_)
        · exact PW.vreturn (pc := 216) dX2_goPiped_216 rfl (⟨rfl, rfl, rfl, tb, FP⟩)
        · omega
  refine PC.ofPW (by decide) (Nat.le_of_ble_eq_true rfl) ?_
  have init : ∀ (N1 r0 : Nat) (I : PIm) (o2 o3 o4 o5 o6 o7 : Option PV), 4 - r0 = N1 → r0 ≤ 4 → (∀ q z, ¬ (q = f + 2 ∨ q = f + 3) → I q z = I0 q z) → (∀ r : Int, 0 ≤ r → r < r0 → I (f + 2) r = r ∧ I (f + 3) r = -1) → PW sc mX2_goPiped (d + 4) 0 0 (fun v Γ' I' R' => v = none ∧ Γ' = Γ ∧ R' = R ∧ ∃ tb', FlowQ I0 I' h f tb0 tb' P lag fw w n) 3 [some (.inr (some f)), some (.inr (some p)), some (.inr (some pp)), some (.inr (some h)), some (.inl (r0 : Int)), o2, o3, o4, o5, o6, o7] [] Γ I R := by
    intro N1
    induction N1 using Nat.strongRecOn with
    | _ N1 ih =>
      intro r0 I o2 o3 o4 o5 o6 o7 hN1 hr4 hfr hin
      by_cases hr : r0 < 4
      · refine PW.iload (pc := 3) dX2_goPiped_3 rfl ?_
        refine PW.iconst (pc := 5) dX2_goPiped_5 ?_
        refine PW.icmp_ge (pc := 6) (tgt := 32) dX2_goPiped_6 (by decide) (by first | omega | exact rg_of _) (by first | omega | exact rg_of _) (fun c_6 => ?_) (fun c_6 => ?_)
        · omega
        · refine PW.aload_n (pc := 9) dX2_goPiped_9 rfl ?_
          refine PW.getr (pc := 10) dX2_goPiped_10 fl_X2_15 (by first | assumption | rfl) (by first | assumption | rfl) ?_
          refine PW.iload (pc := 13) dX2_goPiped_13 rfl ?_
          refine PW.iload (pc := 15) dX2_goPiped_15 rfl ?_
          refine PW.iast (pc := 17) dX2_goPiped_17 (by first | assumption | rfl) (by omega) (by omega) (by omega) ?_
          refine PW.aload_n (pc := 18) dX2_goPiped_18 rfl ?_
          refine PW.getr (pc := 19) dX2_goPiped_19 fl_X2_18 (by first | assumption | rfl) (by first | assumption | rfl) ?_
          refine PW.iload (pc := 22) dX2_goPiped_22 rfl ?_
          refine PW.iconst (pc := 24) dX2_goPiped_24 ?_
          refine PW.iast (pc := 25) dX2_goPiped_25 (by first | assumption | rfl) (by omega) (by omega) (by omega) ?_
          refine PW.iinc (pc := 26) dX2_goPiped_26 rfl (by decide) ?_
          refine PW.goto (pc := 29) (tgt := 3) dX2_goPiped_29 (by decide) ?_
          exact ih (4 - (r0 + 1)) (by omega) (r0 + 1) _ _ _ _ _ _ _ rfl (by omega) (fun q z hq => by rw [pw_up_other (by omega), pw_up_other (by omega), hfr q z hq]) (fun r q0 q1 => by by_cases e : r = (r0 : Int); (· rw [e, pw_up_self, pw_up_other (by omega), pw_up_self]; exact ⟨rfl, rfl⟩); (· rw [pw_up_other (by omega), pw_up_other (by omega), pw_up_other (by omega), pw_up_other (by omega)]; exact hin r q0 (by omega)))
      · have FQ : FlowQ I0 I h f tb0 tb0 P lag fw w 0 := by
          have h4 := TB.1
          have hH : ∀ q, h ≤ q → q ≤ h + 5 → ∀ z, I q z = I0 q z := fun q h0 h1 z => hfr q z (by omega)
          refine ⟨(GrowS.start TB (fun t => by rintro ⟨j, j0, j1, -⟩; omega)).congr hH, by rw [hH h (by omega) (by omega)]; omega, fun q z h0 h1 => hfr q z (by omega), fun j j0 j1 => by omega, fun r q0 q1 => ?_⟩
          obtain ⟨a, b⟩ := hin r q0 (by omega)
          rw [a, b, hH h (by omega) (by omega)]
          exact ⟨rfl, q0, by omega, ((TB.row q0 (by omega)).1 q1).2.1⟩
        refine PW.iload (pc := 3) dX2_goPiped_3 rfl ?_
        refine PW.iconst (pc := 5) dX2_goPiped_5 ?_
        refine PW.icmp_ge (pc := 6) (tgt := 32) dX2_goPiped_6 (by decide) (by first | omega | exact rg_of _) (by first | omega | exact rg_of _) (fun c_6 => ?_) (fun c_6 => ?_)
        · refine PW.iconst (pc := 32) dX2_goPiped_32 ?_
          refine PW.istore (pc := 33) dX2_goPiped_33 (by decide) ?_
          refine PW.iconst (pc := 35) dX2_goPiped_35 ?_
          refine PW.istore (pc := 36) dX2_goPiped_36 (by decide) ?_
          exact loop n 0 I tb0 _ _ _ _ _ (by omega) (by omega) FQ
        · omega
  refine PW.iconst (pc := 0) dX2_goPiped_0 ?_
  refine PW.istore (pc := 1) dX2_goPiped_1 (by decide) ?_
  exact init 4 0 I0 _ _ _ _ _ _ rfl (by omega) (fun _ _ _ => rfl) (fun r q0 q1 => by omega)
end GOPIPED
