section MPUTS
variable {sc : PSc} {Γ : List PTy} {R : PRm}
set_option maxRecDepth 100000 in
set_option maxHeartbeats 1000000 in
theorem code_parts {kind a b c : Int} (h1 : 0 ≤ kind ∧ kind ≤ 2) (h2 : 0 ≤ a ∧ a ≤ 3) (h3 : 0 ≤ b ∧ b ≤ 3) (h4 : 0 ≤ c ∧ c ≤ 3) : kd (64 * kind + 16 * a + 4 * b + c) = kind ∧ dd (64 * kind + 16 * a + 4 * b + c) = a ∧ ss (64 * kind + 16 * a + 4 * b + c) = b ∧ tt (64 * kind + 16 * a + 4 * b + c) = c := by
  unfold kd dd ss tt
  omega
set_option maxRecDepth 100000 in
set_option maxHeartbeats 1000000 in
theorem code_all {c : Int} (h : okc c) : c = 64 * kd c + 16 * dd c + 4 * ss c + tt c := by
  unfold kd dd ss tt
  omega
set_option maxRecDepth 100000 in
set_option maxHeartbeats 1000000 in
theorem q_puts (d : Nat) {I : PIm} {s : CS} {k kind a b c : Int} (M : MAt Γ R) (h : MVal s I) (hk : Rg k) (h1' : Rg kind) (h2' : Rg a) (h3' : Rg b) (h4' : Rg c) : PC sc mX11_puts (d + 1) 0 0 [.inr (some 112), .inl k, .inl kind, .inl a, .inl b, .inl c] Γ I R (MPo Γ I R (sp_puts s k kind a b c).1 (sp_puts s k kind a b c).2) := by
  have h1 := h.thr
  have z1 : ∀ q, q < 112 → pw_up I 112 0 0 q = I q := fun q g => pw_up_ne q (by omega)
  generalize hI1 : pw_up I 112 0 0 = I1 at h1 z1
  obtain ⟨vT, ⟨tb, vF⟩, ⟨vN, vNo⟩, vH, vI, vS⟩ := id h1
  obtain ⟨n1, n2, n25, n26, n27, n28⟩ := id vN
  obtain ⟨vNok, vNoF⟩ := id vNo
  have PM := vN.prog vNok
  have o1 : vn (cNow s) ≤ 6 := vNok.1
  have o3 : 0 ≤ vl (cNow s) ∧ vl (cNow s) ≤ 3 := vNok.2.2.1
  have o4 : 0 ≤ vf (cNow s) ∧ vf (cNow s) ≤ 7 := vNok.2.2.2.1
  have o5 : 0 ≤ vw (cNow s) ∧ vw (cNow s) ≤ 1 := vNok.2.2.2.2.1
  have o6 : 0 ≤ vi (cNow s) ∧ vi (cNow s) < 64 := vNok.2.2.2.2.2
  unfold sp_puts
  have IN := fun (v x y : Int) (hv : Rg v) (hx : Rg x) (hy : Rg y) => c_X11_in (sc := sc) (Γ := Γ) (R := R) (I := I1) d (v := v) (a := x) (b := y) hv hx hy
  have mid : ∀ g : Int, (g = 1 ∧ isI kind a b c) ∨ (g = 0 ∧ ¬ isI kind a b c) → PW sc mX11_puts (d + 1) 0 0 (MPo Γ I R (if ¬ ((0 ≤ k ∧ k ≤ vn (cNow s)) ∧ isI kind a b c) then (-1, s) else if k < vn (cNow s) ∧ vP (cNow s) k = 64 * kind + 16 * a + 4 * b + c then (-2, s) else if 6 ≤ k then (-3, s) else (((if k = (vn (cNow s) : Int) then vn (cNow s) + 1 else vn (cNow s) : Nat) : Int), sPush s (fun j => if j = k then 64 * kind + 16 * a + 4 * b + c else vP (cNow s) j, (if k = (vn (cNow s) : Int) then vn (cNow s) + 1 else vn (cNow s)), vl (cNow s), vf (cNow s), vw (cNow s), vi (cNow s)))).1 (if ¬ ((0 ≤ k ∧ k ≤ vn (cNow s)) ∧ isI kind a b c) then (-1, s) else if k < vn (cNow s) ∧ vP (cNow s) k = 64 * kind + 16 * a + 4 * b + c then (-2, s) else if 6 ≤ k then (-3, s) else (((if k = (vn (cNow s) : Int) then vn (cNow s) + 1 else vn (cNow s) : Nat) : Int), sPush s (fun j => if j = k then 64 * kind + 16 * a + 4 * b + c else vP (cNow s) j, (if k = (vn (cNow s) : Int) then vn (cNow s) + 1 else vn (cNow s)), vl (cNow s), vf (cNow s), vw (cNow s), vi (cNow s)))).2) 75 [some (.inr (some 112)), some (.inl k), some (.inl kind), some (.inl a), some (.inl b), some (.inl c), some (.inl g)] [] Γ I1 R := by
    intro g hg
    by_cases q : (0 ≤ k ∧ k ≤ (vn (cNow s) : Int)) ∧ isI kind a b c
    · rw [if_neg (fun w => w q)]
      obtain ⟨q1, q2⟩ := q
      obtain ⟨y1, y2, y3, y4⟩ := code_parts (kind := kind) (a := a) (b := b) (c := c) (by omega) (by omega) (by omega) (by omega)
      have oc : okc (64 * kind + 16 * a + 4 * b + c) := by omega
      have g1 : g = 1 := by rcases hg with ⟨e, -⟩ | ⟨-, e⟩; (· exact e); (· exact absurd q2 e)
      generalize hcc : 64 * kind + 16 * a + 4 * b + c = cc at *
      subst g1
      by_cases qs : k < (vn (cNow s) : Int) ∧ vP (cNow s) k = cc
      · rw [if_pos qs]
        obtain ⟨x0, x1, x2, x3⟩ := n2 k q1.1 qs.1
        rw [qs.2] at x0 x1 x2 x3
        refine PW.iload_n (pc := 75) dX11_puts_75 rfl ?_
        refine PW.iconst (pc := 76) dX11_puts_76 ?_
        refine PW.aload_n (pc := 77) dX11_puts_77 rfl ?_
        refine PW.getr (pc := 78) dX11_puts_78 fl_X11_20 M.g112 M.r5 ?_
        refine PW.iconst (pc := 81) dX11_puts_81 ?_
        refine PW.iald (pc := 82) dX11_puts_82 M.g116 (by omega) (by omega) (by omega) ?_
        rw [n1]
        refine PW.invS0x (pc := 83) dX11_puts_83 ms_X11_122 (IN _ _ _ hk (by omega) (by omega)) rfl rfl (Nat.le_of_ble_eq_true rfl) ?_
        refine PW.if_eq (pc := 86) (tgt := 94) dX11_puts_86 (by decide) (rg_bi _) (fun c_86 => ?_) (fun c_86 => ?_)
        · exact absurd q1 (bi0 c_86)
        · refine PW.iload (pc := 89) dX11_puts_89 rfl ?_
          refine PW.if_ne (pc := 91) (tgt := 96) dX11_puts_91 (by decide) (by first | omega | exact rg_of _) (fun c_91 => ?_) (fun c_91 => ?_)
          · refine PW.iload_n (pc := 96) dX11_puts_96 rfl ?_
            refine PW.aload_n (pc := 97) dX11_puts_97 rfl ?_
            refine PW.getr (pc := 98) dX11_puts_98 fl_X11_20 M.g112 M.r5 ?_
            refine PW.iconst (pc := 101) dX11_puts_101 ?_
            refine PW.iald (pc := 102) dX11_puts_102 M.g116 (by omega) (by omega) (by omega) ?_
            rw [n1]
            refine PW.icmp_ge (pc := 103) (tgt := 151) dX11_puts_103 (by decide) (by first | omega | exact rg_of _) (by first | omega | exact rg_of _) (fun c_103 => ?_) (fun c_103 => ?_)
            · omega
            · refine PW.aload_n (pc := 106) dX11_puts_106 rfl ?_
              refine PW.iload_n (pc := 107) dX11_puts_107 rfl ?_
              refine PW.iconst (pc := 108) dX11_puts_108 ?_
              refine PW.invV0x (pc := 109) dX11_puts_109 mv_X11_189 (c_X11_its _ M (by omega) (by omega)) M.g112 rfl rfl (Nat.le_of_ble_eq_true rfl) ?_
              rw [x0]
              refine PW.iload_n (pc := 112) dX11_puts_112 rfl ?_
              refine PW.icmp_ne (pc := 113) (tgt := 151) dX11_puts_113 (by decide) (by first | omega | exact rg_of _) (by first | omega | exact rg_of _) (fun c_113 => ?_) (fun c_113 => ?_)
              · omega
              · refine PW.aload_n (pc := 116) dX11_puts_116 rfl ?_
                refine PW.iload_n (pc := 117) dX11_puts_117 rfl ?_
                refine PW.iconst (pc := 118) dX11_puts_118 ?_
                refine PW.invV0x (pc := 119) dX11_puts_119 mv_X11_189 (c_X11_its _ M (by omega) (by omega)) M.g112 rfl rfl (Nat.le_of_ble_eq_true rfl) ?_
                rw [x1]
                refine PW.iload_n (pc := 122) dX11_puts_122 rfl ?_
                refine PW.icmp_ne (pc := 123) (tgt := 151) dX11_puts_123 (by decide) (by first | omega | exact rg_of _) (by first | omega | exact rg_of _) (fun c_123 => ?_) (fun c_123 => ?_)
                · omega
                · refine PW.aload_n (pc := 126) dX11_puts_126 rfl ?_
                  refine PW.iload_n (pc := 127) dX11_puts_127 rfl ?_
                  refine PW.iconst (pc := 128) dX11_puts_128 ?_
                  refine PW.invV0x (pc := 129) dX11_puts_129 mv_X11_189 (c_X11_its _ M (by omega) (by omega)) M.g112 rfl rfl (Nat.le_of_ble_eq_true rfl) ?_
                  rw [x2]
                  refine PW.iload (pc := 132) dX11_puts_132 rfl ?_
                  refine PW.icmp_ne (pc := 134) (tgt := 151) dX11_puts_134 (by decide) (by first | omega | exact rg_of _) (by first | omega | exact rg_of _) (fun c_134 => ?_) (fun c_134 => ?_)
                  · omega
                  · refine PW.aload_n (pc := 137) dX11_puts_137 rfl ?_
                    refine PW.iload_n (pc := 138) dX11_puts_138 rfl ?_
                    refine PW.iconst (pc := 139) dX11_puts_139 ?_
                    refine PW.invV0x (pc := 140) dX11_puts_140 mv_X11_189 (c_X11_its _ M (by omega) (by omega)) M.g112 rfl rfl (Nat.le_of_ble_eq_true rfl) ?_
                    rw [x3]
                    refine PW.iload (pc := 143) dX11_puts_143 rfl ?_
                    refine PW.icmp_ne (pc := 145) (tgt := 151) dX11_puts_145 (by decide) (by first | omega | exact rg_of _) (by first | omega | exact rg_of _) (fun c_145 => ?_) (fun c_145 => ?_)
                    · omega
                    · refine PW.bipush (pc := 148) dX11_puts_148 (by decide) ?_
                      exact PW.ireturn (pc := 150) dX11_puts_150 rfl (MPo.of z1 h1)
          · omega
      · rw [if_neg qs]
        have rest : PW sc mX11_puts (d + 1) 0 0 (MPo Γ I R (if 6 ≤ k then (-3, s) else (((if k = (vn (cNow s) : Int) then vn (cNow s) + 1 else vn (cNow s) : Nat) : Int), sPush s (fun j => if j = k then cc else vP (cNow s) j, (if k = (vn (cNow s) : Int) then vn (cNow s) + 1 else vn (cNow s)), vl (cNow s), vf (cNow s), vw (cNow s), vi (cNow s)))).1 (if 6 ≤ k then (-3, s) else (((if k = (vn (cNow s) : Int) then vn (cNow s) + 1 else vn (cNow s) : Nat) : Int), sPush s (fun j => if j = k then cc else vP (cNow s) j, (if k = (vn (cNow s) : Int) then vn (cNow s) + 1 else vn (cNow s)), vl (cNow s), vf (cNow s), vw (cNow s), vi (cNow s)))).2) 151 [some (.inr (some 112)), some (.inl k), some (.inl kind), some (.inl a), some (.inl b), some (.inl c), some (.inl 1)] [] Γ I1 R := by
          by_cases q6 : 6 ≤ k
          · rw [if_pos q6]
            refine PW.iload_n (pc := 151) dX11_puts_151 rfl ?_
            refine PW.bipush (pc := 152) dX11_puts_152 (by decide) ?_
            refine PW.icmp_ne (pc := 154) (tgt := 160) dX11_puts_154 (by decide) (by first | omega | exact rg_of _) (by first | omega | exact rg_of _) (fun c_154 => ?_) (fun c_154 => ?_)
            · omega
            · refine PW.bipush (pc := 157) dX11_puts_157 (by decide) ?_
              exact PW.ireturn (pc := 159) dX11_puts_159 rfl (MPo.of z1 h1)
          · rw [if_neg q6]
            have fin : ∀ (I' : PIm) (m : Nat), MRem s I1 I' → m = (if k = (vn (cNow s) : Int) then vn (cNow s) + 1 else vn (cNow s)) → PW sc mX11_puts (d + 1) 0 0 (MPo Γ I R (((if k = (vn (cNow s) : Int) then vn (cNow s) + 1 else vn (cNow s) : Nat) : Int)) (sPush s (fun j => if j = k then cc else vP (cNow s) j, (if k = (vn (cNow s) : Int) then vn (cNow s) + 1 else vn (cNow s)), vl (cNow s), vf (cNow s), vw (cNow s), vi (cNow s)))) 188 [some (.inr (some 112)), some (.inl k), some (.inl kind), some (.inl a), some (.inl b), some (.inl c), some (.inl 1)] [] Γ (pw_up I' 116 0 m) R := by
              intro I' m rm hm
              rw [← hm]
              have m6 : m ≤ 6 := by rw [hm]; split <;> omega
              have mle : (m : Int) = vn (cNow s) + 1 ∧ k = vn (cNow s) ∨ (m : Int) = vn (cNow s) ∧ k < vn (cNow s) := by
                rw [hm]
                split <;> omega
              have yy : ∀ z : Int, z ≠ 0 → ¬ (1 + 4 * k ≤ z ∧ z ≤ 1 + 4 * k + 3) → pw_up (pw_up (pw_up (pw_up (pw_up I' 116 0 m) 116 (1 + 4 * k) kind) 116 (1 + 4 * k + 1) a) 116 (1 + 4 * k + 2) b) 116 (1 + 4 * k + 3) c 116 z = I1 116 z := fun z g0 g => by rw [pw_up_other (by omega), pw_up_other (by omega), pw_up_other (by omega), pw_up_other (by omega), pw_up_other (by omega), rm.1 116 z (by omega)]
              have u0 : pw_up (pw_up (pw_up (pw_up (pw_up I' 116 0 m) 116 (1 + 4 * k) kind) 116 (1 + 4 * k + 1) a) 116 (1 + 4 * k + 2) b) 116 (1 + 4 * k + 3) c 116 0 = m := by rw [pw_up_other (by omega), pw_up_other (by omega), pw_up_other (by omega), pw_up_other (by omega), pw_up_self]
              have w0 : pw_up (pw_up (pw_up (pw_up (pw_up I' 116 0 m) 116 (1 + 4 * k) kind) 116 (1 + 4 * k + 1) a) 116 (1 + 4 * k + 2) b) 116 (1 + 4 * k + 3) c 116 (1 + 4 * k + 0) = kind := by rw [pw_up_other (by omega), pw_up_other (by omega), pw_up_other (by omega), show 1 + 4 * k + 0 = 1 + 4 * k by omega, pw_up_self]
              have w1 : pw_up (pw_up (pw_up (pw_up (pw_up I' 116 0 m) 116 (1 + 4 * k) kind) 116 (1 + 4 * k + 1) a) 116 (1 + 4 * k + 2) b) 116 (1 + 4 * k + 3) c 116 (1 + 4 * k + 1) = a := by rw [pw_up_other (by omega), pw_up_other (by omega), pw_up_self]
              have w2 : pw_up (pw_up (pw_up (pw_up (pw_up I' 116 0 m) 116 (1 + 4 * k) kind) 116 (1 + 4 * k + 1) a) 116 (1 + 4 * k + 2) b) 116 (1 + 4 * k + 3) c 116 (1 + 4 * k + 2) = b := by rw [pw_up_other (by omega), pw_up_self]
              have w3 : pw_up (pw_up (pw_up (pw_up (pw_up I' 116 0 m) 116 (1 + 4 * k) kind) 116 (1 + 4 * k + 1) a) 116 (1 + 4 * k + 2) b) 116 (1 + 4 * k + 3) c 116 (1 + 4 * k + 3) = c := by rw [pw_up_self]
              have ne : ∀ q, q ≠ 116 → pw_up (pw_up (pw_up (pw_up (pw_up I' 116 0 m) 116 (1 + 4 * k) kind) 116 (1 + 4 * k + 1) a) 116 (1 + 4 * k + 2) b) 116 (1 + 4 * k + 3) c q = I' q := fun q g => by rw [pw_up_ne q g, pw_up_ne q g, pw_up_ne q g, pw_up_ne q g, pw_up_ne q g]
              generalize hJ : pw_up (pw_up (pw_up (pw_up (pw_up I' 116 0 m) 116 (1 + 4 * k) kind) 116 (1 + 4 * k + 1) a) 116 (1 + 4 * k + 2) b) 116 (1 + 4 * k + 3) c = J at yy u0 w0 w1 w2 w3 ne
              have rowJ : MRow (J 116) (fun j => if j = k then cc else vP (cNow s) j, m, vl (cNow s), vf (cNow s), vw (cNow s), vi (cNow s)) := by
                refine ⟨u0, fun j j0 j1 => ?_, by rw [yy 25 (by omega) (by omega)]; exact n25, by rw [yy 26 (by omega) (by omega)]; exact n26, by rw [yy 27 (by omega) (by omega)]; exact n27, by rw [yy 28 (by omega) (by omega)]; exact n28⟩
                have j1' : j < (m : Int) := j1
                show J 116 (1 + 4 * j + 0) = kd (if j = k then cc else vP (cNow s) j) ∧ J 116 (1 + 4 * j + 1) = dd (if j = k then cc else vP (cNow s) j) ∧ J 116 (1 + 4 * j + 2) = ss (if j = k then cc else vP (cNow s) j) ∧ J 116 (1 + 4 * j + 3) = tt (if j = k then cc else vP (cNow s) j)
                by_cases e : j = k
                · rw [if_pos e, e, w0, w1, w2, w3]; exact ⟨y1.symm, y2.symm, y3.symm, y4.symm⟩
                · rw [if_neg e, yy _ (by omega) (by omega), yy _ (by omega) (by omega), yy _ (by omega) (by omega), yy _ (by omega) (by omega)]
                  exact n2 j j0 (by omega)
              have V3 := MRem.val h1 rm (v := (fun j => if j = k then cc else vP (cNow s) j, m, vl (cNow s), vf (cNow s), vw (cNow s), vi (cNow s))) ⟨⟨m6, fun j j0 j1 => by
                have j1' : j < (m : Int) := j1
                dsimp only
                by_cases e : j = k
                · rw [if_pos e]; exact oc
                · rw [if_neg e]; exact vNok.2.1 j j0 (by show j < (vn (cNow s) : Int); omega), vNok.2.2.1, vNok.2.2.2.1, vNok.2.2.2.2.1, vNok.2.2.2.2.2⟩, vNoF⟩ rowJ ne
              refine PW.aload_n (pc := 188) dX11_puts_188 rfl ?_
              refine PW.getr (pc := 189) dX11_puts_189 fl_X11_20 M.g112 M.r5 ?_
              refine PW.iconst (pc := 192) dX11_puts_192 ?_
              refine PW.iconst (pc := 193) dX11_puts_193 ?_
              refine PW.iload_n (pc := 194) dX11_puts_194 rfl ?_
              refine PW.imul (pc := 195) dX11_puts_195 ?_
              refine PW.iadd (pc := 196) dX11_puts_196 ?_
              refine PW.iload_n (pc := 197) dX11_puts_197 rfl ?_
              refine PW.iast (pc := 198) dX11_puts_198 M.g116 (by omega) (by omega) (by omega) ?_
              refine PW.aload_n (pc := 199) dX11_puts_199 rfl ?_
              refine PW.getr (pc := 200) dX11_puts_200 fl_X11_20 M.g112 M.r5 ?_
              refine PW.iconst (pc := 203) dX11_puts_203 ?_
              refine PW.iconst (pc := 204) dX11_puts_204 ?_
              refine PW.iload_n (pc := 205) dX11_puts_205 rfl ?_
              refine PW.imul (pc := 206) dX11_puts_206 ?_
              refine PW.iadd (pc := 207) dX11_puts_207 ?_
              refine PW.iconst (pc := 208) dX11_puts_208 ?_
              refine PW.iadd (pc := 209) dX11_puts_209 ?_
              refine PW.iload_n (pc := 210) dX11_puts_210 rfl ?_
              refine PW.iast (pc := 211) dX11_puts_211 M.g116 (by omega) (by omega) (by omega) ?_
              refine PW.aload_n (pc := 212) dX11_puts_212 rfl ?_
              refine PW.getr (pc := 213) dX11_puts_213 fl_X11_20 M.g112 M.r5 ?_
              refine PW.iconst (pc := 216) dX11_puts_216 ?_
              refine PW.iconst (pc := 217) dX11_puts_217 ?_
              refine PW.iload_n (pc := 218) dX11_puts_218 rfl ?_
              refine PW.imul (pc := 219) dX11_puts_219 ?_
              refine PW.iadd (pc := 220) dX11_puts_220 ?_
              refine PW.iconst (pc := 221) dX11_puts_221 ?_
              refine PW.iadd (pc := 222) dX11_puts_222 ?_
              refine PW.iload (pc := 223) dX11_puts_223 rfl ?_
              refine PW.iast (pc := 225) dX11_puts_225 M.g116 (by omega) (by omega) (by omega) ?_
              refine PW.aload_n (pc := 226) dX11_puts_226 rfl ?_
              refine PW.getr (pc := 227) dX11_puts_227 fl_X11_20 M.g112 M.r5 ?_
              refine PW.iconst (pc := 230) dX11_puts_230 ?_
              refine PW.iconst (pc := 231) dX11_puts_231 ?_
              refine PW.iload_n (pc := 232) dX11_puts_232 rfl ?_
              refine PW.imul (pc := 233) dX11_puts_233 ?_
              refine PW.iadd (pc := 234) dX11_puts_234 ?_
              refine PW.iconst (pc := 235) dX11_puts_235 ?_
              refine PW.iadd (pc := 236) dX11_puts_236 ?_
              refine PW.iload (pc := 237) dX11_puts_237 rfl ?_
              refine PW.iast (pc := 239) dX11_puts_239 M.g116 (by omega) (by omega) (by omega) ?_
              rw [hJ]
              refine PW.aload_n (pc := 240) dX11_puts_240 rfl ?_
              refine PW.getr (pc := 241) dX11_puts_241 fl_X11_20 M.g112 M.r5 ?_
              refine PW.iconst (pc := 244) dX11_puts_244 ?_
              refine PW.iald (pc := 245) dX11_puts_245 M.g116 (by omega) (by omega) (by omega) ?_
              rw [u0]
              exact PW.ireturn (pc := 246) dX11_puts_246 rfl (MPo.of (fun q g => by rw [ne q (by omega), ← z1 q g]; funext z; exact rm.1 q z (by omega)) V3)
            by_cases e : k = (vn (cNow s) : Int)
            · refine PW.iload_n (pc := 151) dX11_puts_151 rfl ?_
              refine PW.bipush (pc := 152) dX11_puts_152 (by decide) ?_
              refine PW.icmp_ne (pc := 154) (tgt := 160) dX11_puts_154 (by decide) (by first | omega | exact rg_of _) (by first | omega | exact rg_of _) (fun c_154 => ?_) (fun c_154 => ?_)
              · refine PW.aload_n (pc := 160) dX11_puts_160 rfl ?_
                refine PW.invV0 (pc := 161) dX11_puts_161 mv_X11_254 (c_X11_notes _ M vN vNok vH) M.g112 rfl rfl (Nat.le_of_ble_eq_true rfl) ?_
                (rintro v Γ' I' R' ⟨rfl, rfl, rfl, rm⟩)
                have e0 : I' 116 0 = vn (cNow s) := by rw [rm.1 116 0 (by omega)]; exact n1
                refine PW.aload_n (pc := 164) dX11_puts_164 rfl ?_
                refine PW.getr (pc := 165) dX11_puts_165 fl_X11_20 M.g112 M.r5 ?_
                refine PW.iconst (pc := 168) dX11_puts_168 ?_
                refine PW.dup2 (pc := 169) dX11_puts_169 ?_
                refine PW.iald (pc := 170) dX11_puts_170 M.g116 (by omega) (by omega) (by omega) ?_
                rw [e0]
                refine PW.iload_n (pc := 171) dX11_puts_171 rfl ?_
                refine PW.aload_n (pc := 172) dX11_puts_172 rfl ?_
                refine PW.getr (pc := 173) dX11_puts_173 fl_X11_20 M.g112 M.r5 ?_
                refine PW.iconst (pc := 176) dX11_puts_176 ?_
                refine PW.iald (pc := 177) dX11_puts_177 M.g116 (by omega) (by omega) (by omega) ?_
                rw [e0]
                refine PW.icmp_ne (pc := 178) (tgt := 185) dX11_puts_178 (by decide) (by first | omega | exact rg_of _) (by first | omega | exact rg_of _) (fun c_178 => ?_) (fun c_178 => ?_)
                · omega
                · refine PW.iconst (pc := 181) dX11_puts_181 ?_
                  refine PW.goto (pc := 182) (tgt := 186) dX11_puts_182 (by decide) ?_
                  refine PW.iadd (pc := 186) dX11_puts_186 ?_
                  refine PW.iast (pc := 187) dX11_puts_187 M.g116 (by omega) (by omega) (by omega) ?_
                  exact fin I' (vn (cNow s) + 1) rm (by rw [if_pos e])
              · omega
            · refine PW.iload_n (pc := 151) dX11_puts_151 rfl ?_
              refine PW.bipush (pc := 152) dX11_puts_152 (by decide) ?_
              refine PW.icmp_ne (pc := 154) (tgt := 160) dX11_puts_154 (by decide) (by first | omega | exact rg_of _) (by first | omega | exact rg_of _) (fun c_154 => ?_) (fun c_154 => ?_)
              · refine PW.aload_n (pc := 160) dX11_puts_160 rfl ?_
                refine PW.invV0 (pc := 161) dX11_puts_161 mv_X11_254 (c_X11_notes _ M vN vNok vH) M.g112 rfl rfl (Nat.le_of_ble_eq_true rfl) ?_
                (rintro v Γ' I' R' ⟨rfl, rfl, rfl, rm⟩)
                have e0 : I' 116 0 = vn (cNow s) := by rw [rm.1 116 0 (by omega)]; exact n1
                have fz := fin I' (vn (cNow s)) rm (by rw [if_neg e])
                refine PW.aload_n (pc := 164) dX11_puts_164 rfl ?_
                refine PW.getr (pc := 165) dX11_puts_165 fl_X11_20 M.g112 M.r5 ?_
                refine PW.iconst (pc := 168) dX11_puts_168 ?_
                refine PW.dup2 (pc := 169) dX11_puts_169 ?_
                refine PW.iald (pc := 170) dX11_puts_170 M.g116 (by omega) (by omega) (by omega) ?_
                rw [e0]
                refine PW.iload_n (pc := 171) dX11_puts_171 rfl ?_
                refine PW.aload_n (pc := 172) dX11_puts_172 rfl ?_
                refine PW.getr (pc := 173) dX11_puts_173 fl_X11_20 M.g112 M.r5 ?_
                refine PW.iconst (pc := 176) dX11_puts_176 ?_
                refine PW.iald (pc := 177) dX11_puts_177 M.g116 (by omega) (by omega) (by omega) ?_
                rw [e0]
                refine PW.icmp_ne (pc := 178) (tgt := 185) dX11_puts_178 (by decide) (by first | omega | exact rg_of _) (by first | omega | exact rg_of _) (fun c_178 => ?_) (fun c_178 => ?_)
                · refine PW.iconst (pc := 185) dX11_puts_185 ?_
                  refine PW.iadd (pc := 186) dX11_puts_186 ?_
                  refine PW.iast (pc := 187) dX11_puts_187 M.g116 (by omega) (by omega) (by omega) ?_
                  rw [show (vn (cNow s) : Int) + 0 = vn (cNow s) by omega]; exact fz
                · omega
              · omega
        by_cases kl : k < (vn (cNow s) : Int)
        · obtain ⟨x0, x1, x2, x3⟩ := n2 k q1.1 kl
          have okk : okc (vP (cNow s) k) := vNok.2.1 k q1.1 kl
          have ca := code_all okk
          have r1 := kd_rg okk
          have r2 := dd_rg (vP (cNow s) k)
          have r3 := ss_rg (vP (cNow s) k)
          have r4 := tt_rg (vP (cNow s) k)
          have hne : ¬ (kd (vP (cNow s) k) = kind ∧ dd (vP (cNow s) k) = a ∧ ss (vP (cNow s) k) = b ∧ tt (vP (cNow s) k) = c) := fun o => qs ⟨kl, by omega⟩
          refine PW.iload_n (pc := 75) dX11_puts_75 rfl ?_
          refine PW.iconst (pc := 76) dX11_puts_76 ?_
          refine PW.aload_n (pc := 77) dX11_puts_77 rfl ?_
          refine PW.getr (pc := 78) dX11_puts_78 fl_X11_20 M.g112 M.r5 ?_
          refine PW.iconst (pc := 81) dX11_puts_81 ?_
          refine PW.iald (pc := 82) dX11_puts_82 M.g116 (by omega) (by omega) (by omega) ?_
          rw [n1]
          refine PW.invS0x (pc := 83) dX11_puts_83 ms_X11_122 (IN _ _ _ hk (by omega) (by omega)) rfl rfl (Nat.le_of_ble_eq_true rfl) ?_
          refine PW.if_eq (pc := 86) (tgt := 94) dX11_puts_86 (by decide) (rg_bi _) (fun c_86 => ?_) (fun c_86 => ?_)
          · exact absurd q1 (bi0 c_86)
          · refine PW.iload (pc := 89) dX11_puts_89 rfl ?_
            refine PW.if_ne (pc := 91) (tgt := 96) dX11_puts_91 (by decide) (by first | omega | exact rg_of _) (fun c_91 => ?_) (fun c_91 => ?_)
            · refine PW.iload_n (pc := 96) dX11_puts_96 rfl ?_
              refine PW.aload_n (pc := 97) dX11_puts_97 rfl ?_
              refine PW.getr (pc := 98) dX11_puts_98 fl_X11_20 M.g112 M.r5 ?_
              refine PW.iconst (pc := 101) dX11_puts_101 ?_
              refine PW.iald (pc := 102) dX11_puts_102 M.g116 (by omega) (by omega) (by omega) ?_
              rw [n1]
              refine PW.icmp_ge (pc := 103) (tgt := 151) dX11_puts_103 (by decide) (by first | omega | exact rg_of _) (by first | omega | exact rg_of _) (fun c_103 => ?_) (fun c_103 => ?_)
              · omega
              · refine PW.aload_n (pc := 106) dX11_puts_106 rfl ?_
                refine PW.iload_n (pc := 107) dX11_puts_107 rfl ?_
                refine PW.iconst (pc := 108) dX11_puts_108 ?_
                refine PW.invV0x (pc := 109) dX11_puts_109 mv_X11_189 (c_X11_its _ M (by omega) (by omega)) M.g112 rfl rfl (Nat.le_of_ble_eq_true rfl) ?_
                rw [x0]
                refine PW.iload_n (pc := 112) dX11_puts_112 rfl ?_
                refine PW.icmp_ne (pc := 113) (tgt := 151) dX11_puts_113 (by decide) (by first | omega | exact rg_of _) (by first | omega | exact rg_of _) (fun c_113 => ?_) (fun c_113 => ?_)
                · exact rest
                · refine PW.aload_n (pc := 116) dX11_puts_116 rfl ?_
                  refine PW.iload_n (pc := 117) dX11_puts_117 rfl ?_
                  refine PW.iconst (pc := 118) dX11_puts_118 ?_
                  refine PW.invV0x (pc := 119) dX11_puts_119 mv_X11_189 (c_X11_its _ M (by omega) (by omega)) M.g112 rfl rfl (Nat.le_of_ble_eq_true rfl) ?_
                  rw [x1]
                  refine PW.iload_n (pc := 122) dX11_puts_122 rfl ?_
                  refine PW.icmp_ne (pc := 123) (tgt := 151) dX11_puts_123 (by decide) (by first | omega | exact rg_of _) (by first | omega | exact rg_of _) (fun c_123 => ?_) (fun c_123 => ?_)
                  · exact rest
                  · refine PW.aload_n (pc := 126) dX11_puts_126 rfl ?_
                    refine PW.iload_n (pc := 127) dX11_puts_127 rfl ?_
                    refine PW.iconst (pc := 128) dX11_puts_128 ?_
                    refine PW.invV0x (pc := 129) dX11_puts_129 mv_X11_189 (c_X11_its _ M (by omega) (by omega)) M.g112 rfl rfl (Nat.le_of_ble_eq_true rfl) ?_
                    rw [x2]
                    refine PW.iload (pc := 132) dX11_puts_132 rfl ?_
                    refine PW.icmp_ne (pc := 134) (tgt := 151) dX11_puts_134 (by decide) (by first | omega | exact rg_of _) (by first | omega | exact rg_of _) (fun c_134 => ?_) (fun c_134 => ?_)
                    · exact rest
                    · refine PW.aload_n (pc := 137) dX11_puts_137 rfl ?_
                      refine PW.iload_n (pc := 138) dX11_puts_138 rfl ?_
                      refine PW.iconst (pc := 139) dX11_puts_139 ?_
                      refine PW.invV0x (pc := 140) dX11_puts_140 mv_X11_189 (c_X11_its _ M (by omega) (by omega)) M.g112 rfl rfl (Nat.le_of_ble_eq_true rfl) ?_
                      rw [x3]
                      refine PW.iload (pc := 143) dX11_puts_143 rfl ?_
                      refine PW.icmp_ne (pc := 145) (tgt := 151) dX11_puts_145 (by decide) (by first | omega | exact rg_of _) (by first | omega | exact rg_of _) (fun c_145 => ?_) (fun c_145 => ?_)
                      · exact rest
                      · omega
            · omega
        · refine PW.iload_n (pc := 75) dX11_puts_75 rfl ?_
          refine PW.iconst (pc := 76) dX11_puts_76 ?_
          refine PW.aload_n (pc := 77) dX11_puts_77 rfl ?_
          refine PW.getr (pc := 78) dX11_puts_78 fl_X11_20 M.g112 M.r5 ?_
          refine PW.iconst (pc := 81) dX11_puts_81 ?_
          refine PW.iald (pc := 82) dX11_puts_82 M.g116 (by omega) (by omega) (by omega) ?_
          rw [n1]
          refine PW.invS0x (pc := 83) dX11_puts_83 ms_X11_122 (IN _ _ _ hk (by omega) (by omega)) rfl rfl (Nat.le_of_ble_eq_true rfl) ?_
          refine PW.if_eq (pc := 86) (tgt := 94) dX11_puts_86 (by decide) (rg_bi _) (fun c_86 => ?_) (fun c_86 => ?_)
          · exact absurd q1 (bi0 c_86)
          · refine PW.iload (pc := 89) dX11_puts_89 rfl ?_
            refine PW.if_ne (pc := 91) (tgt := 96) dX11_puts_91 (by decide) (by first | omega | exact rg_of _) (fun c_91 => ?_) (fun c_91 => ?_)
            · refine PW.iload_n (pc := 96) dX11_puts_96 rfl ?_
              refine PW.aload_n (pc := 97) dX11_puts_97 rfl ?_
              refine PW.getr (pc := 98) dX11_puts_98 fl_X11_20 M.g112 M.r5 ?_
              refine PW.iconst (pc := 101) dX11_puts_101 ?_
              refine PW.iald (pc := 102) dX11_puts_102 M.g116 (by omega) (by omega) (by omega) ?_
              rw [n1]
              refine PW.icmp_ge (pc := 103) (tgt := 151) dX11_puts_103 (by decide) (by first | omega | exact rg_of _) (by first | omega | exact rg_of _) (fun c_103 => ?_) (fun c_103 => ?_)
              · exact rest
              · omega
            · omega
    · rw [if_pos q]
      refine PW.iload_n (pc := 75) dX11_puts_75 rfl ?_
      refine PW.iconst (pc := 76) dX11_puts_76 ?_
      refine PW.aload_n (pc := 77) dX11_puts_77 rfl ?_
      refine PW.getr (pc := 78) dX11_puts_78 fl_X11_20 M.g112 M.r5 ?_
      refine PW.iconst (pc := 81) dX11_puts_81 ?_
      refine PW.iald (pc := 82) dX11_puts_82 M.g116 (by omega) (by omega) (by omega) ?_
      rw [n1]
      refine PW.invS0x (pc := 83) dX11_puts_83 ms_X11_122 (IN _ _ _ hk (by omega) (by omega)) rfl rfl (Nat.le_of_ble_eq_true rfl) ?_
      refine PW.if_eq (pc := 86) (tgt := 94) dX11_puts_86 (by decide) (rg_bi _) (fun c_86 => ?_) (fun c_86 => ?_)
      · refine PW.iconst (pc := 94) dX11_puts_94 ?_
        exact PW.ireturn (pc := 95) dX11_puts_95 rfl (MPo.of z1 h1)
      · refine PW.iload (pc := 89) dX11_puts_89 rfl ?_
        refine PW.if_ne (pc := 91) (tgt := 96) dX11_puts_91 (by decide) (by rcases hg with ⟨e, -⟩ | ⟨e, -⟩ <;> omega) (fun c_91 => ?_) (fun c_91 => ?_)
        · rcases hg with ⟨e, e2⟩ | ⟨e, e2⟩
          · exact absurd (And.intro (bi1 c_86) e2) q
          · omega
        · refine PW.iconst (pc := 94) dX11_puts_94 ?_
          exact PW.ireturn (pc := 95) dX11_puts_95 rfl (MPo.of z1 h1)
  refine PC.ofPW (by decide) (Nat.le_of_ble_eq_true rfl) ?_
  refine PW.aload_n (pc := 0) dX11_puts_0 rfl ?_
  refine PW.iconst (pc := 1) dX11_puts_1 ?_
  refine PW.puti (pc := 2) dX11_puts_2 fl_X11_104 M.g112 ?_
  rw [hI1]
  refine PW.iload_n (pc := 5) dX11_puts_5 rfl ?_
  refine PW.iconst (pc := 6) dX11_puts_6 ?_
  refine PW.iconst (pc := 7) dX11_puts_7 ?_
  refine PW.invS0x (pc := 8) dX11_puts_8 ms_X11_122 (IN _ _ _ h1' (by omega) (by omega)) rfl rfl (Nat.le_of_ble_eq_true rfl) ?_
  refine PW.if_eq (pc := 11) (tgt := 72) dX11_puts_11 (by decide) (rg_bi _) (fun c_11 => ?_) (fun c_11 => ?_)
  · refine PW.iconst (pc := 72) dX11_puts_72 ?_
    refine PW.istore (pc := 73) dX11_puts_73 (by decide) ?_
    first
    | exact mid 1 (Or.inl ⟨rfl, by omega⟩)
    | exact mid 0 (Or.inr ⟨rfl, fun o => absurd (And.intro o.1.1.1 o.1.1.2) (bi0 c_11)⟩)
    | exact mid 0 (Or.inr ⟨rfl, fun o => absurd (by omega) (bi0 c_28)⟩)
    | exact mid 0 (Or.inr ⟨rfl, fun o => absurd (by omega) (bi0 c_46)⟩)
    | exact mid 0 (Or.inr ⟨rfl, fun o => absurd (by omega) (bi0 c_65)⟩)
  · have b11 := bi1 c_11
    refine PW.iload_n (pc := 14) dX11_puts_14 rfl ?_
    refine PW.iconst (pc := 15) dX11_puts_15 ?_
    refine PW.iload_n (pc := 16) dX11_puts_16 rfl ?_
    refine PW.if_le (pc := 17) (tgt := 24) dX11_puts_17 (by decide) (by first | omega | exact rg_of _) (fun c_17 => ?_) (fun c_17 => ?_)
    · refine PW.iconst (pc := 24) dX11_puts_24 ?_
      refine PW.invS0x (pc := 25) dX11_puts_25 ms_X11_122 (IN _ _ _ h2' (by omega) (by omega)) rfl rfl (Nat.le_of_ble_eq_true rfl) ?_
      refine PW.if_eq (pc := 28) (tgt := 72) dX11_puts_28 (by decide) (rg_bi _) (fun c_28 => ?_) (fun c_28 => ?_)
      · refine PW.iconst (pc := 72) dX11_puts_72 ?_
        refine PW.istore (pc := 73) dX11_puts_73 (by decide) ?_
        first
        | exact mid 1 (Or.inl ⟨rfl, by omega⟩)
        | exact mid 0 (Or.inr ⟨rfl, fun o => absurd (And.intro o.1.1.1 o.1.1.2) (bi0 c_11)⟩)
        | exact mid 0 (Or.inr ⟨rfl, fun o => absurd (by omega) (bi0 c_28)⟩)
        | exact mid 0 (Or.inr ⟨rfl, fun o => absurd (by omega) (bi0 c_46)⟩)
        | exact mid 0 (Or.inr ⟨rfl, fun o => absurd (by omega) (bi0 c_65)⟩)
      · have b28 := bi1 c_28
        refine PW.iload (pc := 31) dX11_puts_31 rfl ?_
        refine PW.iconst (pc := 33) dX11_puts_33 ?_
        refine PW.iload_n (pc := 34) dX11_puts_34 rfl ?_
        refine PW.if_le (pc := 35) (tgt := 42) dX11_puts_35 (by decide) (by first | omega | exact rg_of _) (fun c_35 => ?_) (fun c_35 => ?_)
        · refine PW.iconst (pc := 42) dX11_puts_42 ?_
          refine PW.invS0x (pc := 43) dX11_puts_43 ms_X11_122 (IN _ _ _ h3' (by omega) (by omega)) rfl rfl (Nat.le_of_ble_eq_true rfl) ?_
          refine PW.if_eq (pc := 46) (tgt := 72) dX11_puts_46 (by decide) (rg_bi _) (fun c_46 => ?_) (fun c_46 => ?_)
          · refine PW.iconst (pc := 72) dX11_puts_72 ?_
            refine PW.istore (pc := 73) dX11_puts_73 (by decide) ?_
            first
            | exact mid 1 (Or.inl ⟨rfl, by omega⟩)
            | exact mid 0 (Or.inr ⟨rfl, fun o => absurd (And.intro o.1.1.1 o.1.1.2) (bi0 c_11)⟩)
            | exact mid 0 (Or.inr ⟨rfl, fun o => absurd (by omega) (bi0 c_28)⟩)
            | exact mid 0 (Or.inr ⟨rfl, fun o => absurd (by omega) (bi0 c_46)⟩)
            | exact mid 0 (Or.inr ⟨rfl, fun o => absurd (by omega) (bi0 c_65)⟩)
          · have b46 := bi1 c_46
            refine PW.iload (pc := 49) dX11_puts_49 rfl ?_
            refine PW.iconst (pc := 51) dX11_puts_51 ?_
            refine PW.iload_n (pc := 52) dX11_puts_52 rfl ?_
            refine PW.iconst (pc := 53) dX11_puts_53 ?_
            refine PW.icmp_le (pc := 54) (tgt := 61) dX11_puts_54 (by decide) (by first | omega | exact rg_of _) (by first | omega | exact rg_of _) (fun c_54 => ?_) (fun c_54 => ?_)
            · refine PW.iconst (pc := 61) dX11_puts_61 ?_
              refine PW.invS0x (pc := 62) dX11_puts_62 ms_X11_122 (IN _ _ _ h4' (by omega) (by omega)) rfl rfl (Nat.le_of_ble_eq_true rfl) ?_
              refine PW.if_eq (pc := 65) (tgt := 72) dX11_puts_65 (by decide) (rg_bi _) (fun c_65 => ?_) (fun c_65 => ?_)
              · refine PW.iconst (pc := 72) dX11_puts_72 ?_
                refine PW.istore (pc := 73) dX11_puts_73 (by decide) ?_
                first
                | exact mid 1 (Or.inl ⟨rfl, by omega⟩)
                | exact mid 0 (Or.inr ⟨rfl, fun o => absurd (And.intro o.1.1.1 o.1.1.2) (bi0 c_11)⟩)
                | exact mid 0 (Or.inr ⟨rfl, fun o => absurd (by omega) (bi0 c_28)⟩)
                | exact mid 0 (Or.inr ⟨rfl, fun o => absurd (by omega) (bi0 c_46)⟩)
                | exact mid 0 (Or.inr ⟨rfl, fun o => absurd (by omega) (bi0 c_65)⟩)
              · have b65 := bi1 c_65
                refine PW.iconst (pc := 68) dX11_puts_68 ?_
                refine PW.goto (pc := 69) (tgt := 73) dX11_puts_69 (by decide) ?_
                refine PW.istore (pc := 73) dX11_puts_73 (by decide) ?_
                first
                | exact mid 1 (Or.inl ⟨rfl, by omega⟩)
                | exact mid 0 (Or.inr ⟨rfl, fun o => absurd (And.intro o.1.1.1 o.1.1.2) (bi0 c_11)⟩)
                | exact mid 0 (Or.inr ⟨rfl, fun o => absurd (by omega) (bi0 c_28)⟩)
                | exact mid 0 (Or.inr ⟨rfl, fun o => absurd (by omega) (bi0 c_46)⟩)
                | exact mid 0 (Or.inr ⟨rfl, fun o => absurd (by omega) (bi0 c_65)⟩)
            · refine PW.iconst (pc := 57) dX11_puts_57 ?_
              refine PW.goto (pc := 58) (tgt := 62) dX11_puts_58 (by decide) ?_
              refine PW.invS0x (pc := 62) dX11_puts_62 ms_X11_122 (IN _ _ _ h4' (by omega) (by omega)) rfl rfl (Nat.le_of_ble_eq_true rfl) ?_
              refine PW.if_eq (pc := 65) (tgt := 72) dX11_puts_65 (by decide) (rg_bi _) (fun c_65 => ?_) (fun c_65 => ?_)
              · refine PW.iconst (pc := 72) dX11_puts_72 ?_
                refine PW.istore (pc := 73) dX11_puts_73 (by decide) ?_
                first
                | exact mid 1 (Or.inl ⟨rfl, by omega⟩)
                | exact mid 0 (Or.inr ⟨rfl, fun o => absurd (And.intro o.1.1.1 o.1.1.2) (bi0 c_11)⟩)
                | exact mid 0 (Or.inr ⟨rfl, fun o => absurd (by omega) (bi0 c_28)⟩)
                | exact mid 0 (Or.inr ⟨rfl, fun o => absurd (by omega) (bi0 c_46)⟩)
                | exact mid 0 (Or.inr ⟨rfl, fun o => absurd (by omega) (bi0 c_65)⟩)
              · have b65 := bi1 c_65
                refine PW.iconst (pc := 68) dX11_puts_68 ?_
                refine PW.goto (pc := 69) (tgt := 73) dX11_puts_69 (by decide) ?_
                refine PW.istore (pc := 73) dX11_puts_73 (by decide) ?_
                first
                | exact mid 1 (Or.inl ⟨rfl, by omega⟩)
                | exact mid 0 (Or.inr ⟨rfl, fun o => absurd (And.intro o.1.1.1 o.1.1.2) (bi0 c_11)⟩)
                | exact mid 0 (Or.inr ⟨rfl, fun o => absurd (by omega) (bi0 c_28)⟩)
                | exact mid 0 (Or.inr ⟨rfl, fun o => absurd (by omega) (bi0 c_46)⟩)
                | exact mid 0 (Or.inr ⟨rfl, fun o => absurd (by omega) (bi0 c_65)⟩)
        · refine PW.iconst (pc := 38) dX11_puts_38 ?_
          refine PW.goto (pc := 39) (tgt := 43) dX11_puts_39 (by decide) ?_
          refine PW.invS0x (pc := 43) dX11_puts_43 ms_X11_122 (IN _ _ _ h3' (by omega) (by omega)) rfl rfl (Nat.le_of_ble_eq_true rfl) ?_
          refine PW.if_eq (pc := 46) (tgt := 72) dX11_puts_46 (by decide) (rg_bi _) (fun c_46 => ?_) (fun c_46 => ?_)
          · refine PW.iconst (pc := 72) dX11_puts_72 ?_
            refine PW.istore (pc := 73) dX11_puts_73 (by decide) ?_
            first
            | exact mid 1 (Or.inl ⟨rfl, by omega⟩)
            | exact mid 0 (Or.inr ⟨rfl, fun o => absurd (And.intro o.1.1.1 o.1.1.2) (bi0 c_11)⟩)
            | exact mid 0 (Or.inr ⟨rfl, fun o => absurd (by omega) (bi0 c_28)⟩)
            | exact mid 0 (Or.inr ⟨rfl, fun o => absurd (by omega) (bi0 c_46)⟩)
            | exact mid 0 (Or.inr ⟨rfl, fun o => absurd (by omega) (bi0 c_65)⟩)
          · have b46 := bi1 c_46
            refine PW.iload (pc := 49) dX11_puts_49 rfl ?_
            refine PW.iconst (pc := 51) dX11_puts_51 ?_
            refine PW.iload_n (pc := 52) dX11_puts_52 rfl ?_
            refine PW.iconst (pc := 53) dX11_puts_53 ?_
            refine PW.icmp_le (pc := 54) (tgt := 61) dX11_puts_54 (by decide) (by first | omega | exact rg_of _) (by first | omega | exact rg_of _) (fun c_54 => ?_) (fun c_54 => ?_)
            · refine PW.iconst (pc := 61) dX11_puts_61 ?_
              refine PW.invS0x (pc := 62) dX11_puts_62 ms_X11_122 (IN _ _ _ h4' (by omega) (by omega)) rfl rfl (Nat.le_of_ble_eq_true rfl) ?_
              refine PW.if_eq (pc := 65) (tgt := 72) dX11_puts_65 (by decide) (rg_bi _) (fun c_65 => ?_) (fun c_65 => ?_)
              · refine PW.iconst (pc := 72) dX11_puts_72 ?_
                refine PW.istore (pc := 73) dX11_puts_73 (by decide) ?_
                first
                | exact mid 1 (Or.inl ⟨rfl, by omega⟩)
                | exact mid 0 (Or.inr ⟨rfl, fun o => absurd (And.intro o.1.1.1 o.1.1.2) (bi0 c_11)⟩)
                | exact mid 0 (Or.inr ⟨rfl, fun o => absurd (by omega) (bi0 c_28)⟩)
                | exact mid 0 (Or.inr ⟨rfl, fun o => absurd (by omega) (bi0 c_46)⟩)
                | exact mid 0 (Or.inr ⟨rfl, fun o => absurd (by omega) (bi0 c_65)⟩)
              · have b65 := bi1 c_65
                refine PW.iconst (pc := 68) dX11_puts_68 ?_
                refine PW.goto (pc := 69) (tgt := 73) dX11_puts_69 (by decide) ?_
                refine PW.istore (pc := 73) dX11_puts_73 (by decide) ?_
                first
                | exact mid 1 (Or.inl ⟨rfl, by omega⟩)
                | exact mid 0 (Or.inr ⟨rfl, fun o => absurd (And.intro o.1.1.1 o.1.1.2) (bi0 c_11)⟩)
                | exact mid 0 (Or.inr ⟨rfl, fun o => absurd (by omega) (bi0 c_28)⟩)
                | exact mid 0 (Or.inr ⟨rfl, fun o => absurd (by omega) (bi0 c_46)⟩)
                | exact mid 0 (Or.inr ⟨rfl, fun o => absurd (by omega) (bi0 c_65)⟩)
            · refine PW.iconst (pc := 57) dX11_puts_57 ?_
              refine PW.goto (pc := 58) (tgt := 62) dX11_puts_58 (by decide) ?_
              refine PW.invS0x (pc := 62) dX11_puts_62 ms_X11_122 (IN _ _ _ h4' (by omega) (by omega)) rfl rfl (Nat.le_of_ble_eq_true rfl) ?_
              refine PW.if_eq (pc := 65) (tgt := 72) dX11_puts_65 (by decide) (rg_bi _) (fun c_65 => ?_) (fun c_65 => ?_)
              · refine PW.iconst (pc := 72) dX11_puts_72 ?_
                refine PW.istore (pc := 73) dX11_puts_73 (by decide) ?_
                first
                | exact mid 1 (Or.inl ⟨rfl, by omega⟩)
                | exact mid 0 (Or.inr ⟨rfl, fun o => absurd (And.intro o.1.1.1 o.1.1.2) (bi0 c_11)⟩)
                | exact mid 0 (Or.inr ⟨rfl, fun o => absurd (by omega) (bi0 c_28)⟩)
                | exact mid 0 (Or.inr ⟨rfl, fun o => absurd (by omega) (bi0 c_46)⟩)
                | exact mid 0 (Or.inr ⟨rfl, fun o => absurd (by omega) (bi0 c_65)⟩)
              · have b65 := bi1 c_65
                refine PW.iconst (pc := 68) dX11_puts_68 ?_
                refine PW.goto (pc := 69) (tgt := 73) dX11_puts_69 (by decide) ?_
                refine PW.istore (pc := 73) dX11_puts_73 (by decide) ?_
                first
                | exact mid 1 (Or.inl ⟨rfl, by omega⟩)
                | exact mid 0 (Or.inr ⟨rfl, fun o => absurd (And.intro o.1.1.1 o.1.1.2) (bi0 c_11)⟩)
                | exact mid 0 (Or.inr ⟨rfl, fun o => absurd (by omega) (bi0 c_28)⟩)
                | exact mid 0 (Or.inr ⟨rfl, fun o => absurd (by omega) (bi0 c_46)⟩)
                | exact mid 0 (Or.inr ⟨rfl, fun o => absurd (by omega) (bi0 c_65)⟩)
    · refine PW.iconst (pc := 20) dX11_puts_20 ?_
      refine PW.goto (pc := 21) (tgt := 25) dX11_puts_21 (by decide) ?_
      refine PW.invS0x (pc := 25) dX11_puts_25 ms_X11_122 (IN _ _ _ h2' (by omega) (by omega)) rfl rfl (Nat.le_of_ble_eq_true rfl) ?_
      refine PW.if_eq (pc := 28) (tgt := 72) dX11_puts_28 (by decide) (rg_bi _) (fun c_28 => ?_) (fun c_28 => ?_)
      · refine PW.iconst (pc := 72) dX11_puts_72 ?_
        refine PW.istore (pc := 73) dX11_puts_73 (by decide) ?_
        first
        | exact mid 1 (Or.inl ⟨rfl, by omega⟩)
        | exact mid 0 (Or.inr ⟨rfl, fun o => absurd (And.intro o.1.1.1 o.1.1.2) (bi0 c_11)⟩)
        | exact mid 0 (Or.inr ⟨rfl, fun o => absurd (by omega) (bi0 c_28)⟩)
        | exact mid 0 (Or.inr ⟨rfl, fun o => absurd (by omega) (bi0 c_46)⟩)
        | exact mid 0 (Or.inr ⟨rfl, fun o => absurd (by omega) (bi0 c_65)⟩)
      · have b28 := bi1 c_28
        refine PW.iload (pc := 31) dX11_puts_31 rfl ?_
        refine PW.iconst (pc := 33) dX11_puts_33 ?_
        refine PW.iload_n (pc := 34) dX11_puts_34 rfl ?_
        refine PW.if_le (pc := 35) (tgt := 42) dX11_puts_35 (by decide) (by first | omega | exact rg_of _) (fun c_35 => ?_) (fun c_35 => ?_)
        · refine PW.iconst (pc := 42) dX11_puts_42 ?_
          refine PW.invS0x (pc := 43) dX11_puts_43 ms_X11_122 (IN _ _ _ h3' (by omega) (by omega)) rfl rfl (Nat.le_of_ble_eq_true rfl) ?_
          refine PW.if_eq (pc := 46) (tgt := 72) dX11_puts_46 (by decide) (rg_bi _) (fun c_46 => ?_) (fun c_46 => ?_)
          · refine PW.iconst (pc := 72) dX11_puts_72 ?_
            refine PW.istore (pc := 73) dX11_puts_73 (by decide) ?_
            first
            | exact mid 1 (Or.inl ⟨rfl, by omega⟩)
            | exact mid 0 (Or.inr ⟨rfl, fun o => absurd (And.intro o.1.1.1 o.1.1.2) (bi0 c_11)⟩)
            | exact mid 0 (Or.inr ⟨rfl, fun o => absurd (by omega) (bi0 c_28)⟩)
            | exact mid 0 (Or.inr ⟨rfl, fun o => absurd (by omega) (bi0 c_46)⟩)
            | exact mid 0 (Or.inr ⟨rfl, fun o => absurd (by omega) (bi0 c_65)⟩)
          · have b46 := bi1 c_46
            refine PW.iload (pc := 49) dX11_puts_49 rfl ?_
            refine PW.iconst (pc := 51) dX11_puts_51 ?_
            refine PW.iload_n (pc := 52) dX11_puts_52 rfl ?_
            refine PW.iconst (pc := 53) dX11_puts_53 ?_
            refine PW.icmp_le (pc := 54) (tgt := 61) dX11_puts_54 (by decide) (by first | omega | exact rg_of _) (by first | omega | exact rg_of _) (fun c_54 => ?_) (fun c_54 => ?_)
            · refine PW.iconst (pc := 61) dX11_puts_61 ?_
              refine PW.invS0x (pc := 62) dX11_puts_62 ms_X11_122 (IN _ _ _ h4' (by omega) (by omega)) rfl rfl (Nat.le_of_ble_eq_true rfl) ?_
              refine PW.if_eq (pc := 65) (tgt := 72) dX11_puts_65 (by decide) (rg_bi _) (fun c_65 => ?_) (fun c_65 => ?_)
              · refine PW.iconst (pc := 72) dX11_puts_72 ?_
                refine PW.istore (pc := 73) dX11_puts_73 (by decide) ?_
                first
                | exact mid 1 (Or.inl ⟨rfl, by omega⟩)
                | exact mid 0 (Or.inr ⟨rfl, fun o => absurd (And.intro o.1.1.1 o.1.1.2) (bi0 c_11)⟩)
                | exact mid 0 (Or.inr ⟨rfl, fun o => absurd (by omega) (bi0 c_28)⟩)
                | exact mid 0 (Or.inr ⟨rfl, fun o => absurd (by omega) (bi0 c_46)⟩)
                | exact mid 0 (Or.inr ⟨rfl, fun o => absurd (by omega) (bi0 c_65)⟩)
              · have b65 := bi1 c_65
                refine PW.iconst (pc := 68) dX11_puts_68 ?_
                refine PW.goto (pc := 69) (tgt := 73) dX11_puts_69 (by decide) ?_
                refine PW.istore (pc := 73) dX11_puts_73 (by decide) ?_
                first
                | exact mid 1 (Or.inl ⟨rfl, by omega⟩)
                | exact mid 0 (Or.inr ⟨rfl, fun o => absurd (And.intro o.1.1.1 o.1.1.2) (bi0 c_11)⟩)
                | exact mid 0 (Or.inr ⟨rfl, fun o => absurd (by omega) (bi0 c_28)⟩)
                | exact mid 0 (Or.inr ⟨rfl, fun o => absurd (by omega) (bi0 c_46)⟩)
                | exact mid 0 (Or.inr ⟨rfl, fun o => absurd (by omega) (bi0 c_65)⟩)
            · refine PW.iconst (pc := 57) dX11_puts_57 ?_
              refine PW.goto (pc := 58) (tgt := 62) dX11_puts_58 (by decide) ?_
              refine PW.invS0x (pc := 62) dX11_puts_62 ms_X11_122 (IN _ _ _ h4' (by omega) (by omega)) rfl rfl (Nat.le_of_ble_eq_true rfl) ?_
              refine PW.if_eq (pc := 65) (tgt := 72) dX11_puts_65 (by decide) (rg_bi _) (fun c_65 => ?_) (fun c_65 => ?_)
              · refine PW.iconst (pc := 72) dX11_puts_72 ?_
                refine PW.istore (pc := 73) dX11_puts_73 (by decide) ?_
                first
                | exact mid 1 (Or.inl ⟨rfl, by omega⟩)
                | exact mid 0 (Or.inr ⟨rfl, fun o => absurd (And.intro o.1.1.1 o.1.1.2) (bi0 c_11)⟩)
                | exact mid 0 (Or.inr ⟨rfl, fun o => absurd (by omega) (bi0 c_28)⟩)
                | exact mid 0 (Or.inr ⟨rfl, fun o => absurd (by omega) (bi0 c_46)⟩)
                | exact mid 0 (Or.inr ⟨rfl, fun o => absurd (by omega) (bi0 c_65)⟩)
              · have b65 := bi1 c_65
                refine PW.iconst (pc := 68) dX11_puts_68 ?_
                refine PW.goto (pc := 69) (tgt := 73) dX11_puts_69 (by decide) ?_
                refine PW.istore (pc := 73) dX11_puts_73 (by decide) ?_
                first
                | exact mid 1 (Or.inl ⟨rfl, by omega⟩)
                | exact mid 0 (Or.inr ⟨rfl, fun o => absurd (And.intro o.1.1.1 o.1.1.2) (bi0 c_11)⟩)
                | exact mid 0 (Or.inr ⟨rfl, fun o => absurd (by omega) (bi0 c_28)⟩)
                | exact mid 0 (Or.inr ⟨rfl, fun o => absurd (by omega) (bi0 c_46)⟩)
                | exact mid 0 (Or.inr ⟨rfl, fun o => absurd (by omega) (bi0 c_65)⟩)
        · refine PW.iconst (pc := 38) dX11_puts_38 ?_
          refine PW.goto (pc := 39) (tgt := 43) dX11_puts_39 (by decide) ?_
          refine PW.invS0x (pc := 43) dX11_puts_43 ms_X11_122 (IN _ _ _ h3' (by omega) (by omega)) rfl rfl (Nat.le_of_ble_eq_true rfl) ?_
          refine PW.if_eq (pc := 46) (tgt := 72) dX11_puts_46 (by decide) (rg_bi _) (fun c_46 => ?_) (fun c_46 => ?_)
          · refine PW.iconst (pc := 72) dX11_puts_72 ?_
            refine PW.istore (pc := 73) dX11_puts_73 (by decide) ?_
            first
            | exact mid 1 (Or.inl ⟨rfl, by omega⟩)
            | exact mid 0 (Or.inr ⟨rfl, fun o => absurd (And.intro o.1.1.1 o.1.1.2) (bi0 c_11)⟩)
            | exact mid 0 (Or.inr ⟨rfl, fun o => absurd (by omega) (bi0 c_28)⟩)
            | exact mid 0 (Or.inr ⟨rfl, fun o => absurd (by omega) (bi0 c_46)⟩)
            | exact mid 0 (Or.inr ⟨rfl, fun o => absurd (by omega) (bi0 c_65)⟩)
          · have b46 := bi1 c_46
            refine PW.iload (pc := 49) dX11_puts_49 rfl ?_
            refine PW.iconst (pc := 51) dX11_puts_51 ?_
            refine PW.iload_n (pc := 52) dX11_puts_52 rfl ?_
            refine PW.iconst (pc := 53) dX11_puts_53 ?_
            refine PW.icmp_le (pc := 54) (tgt := 61) dX11_puts_54 (by decide) (by first | omega | exact rg_of _) (by first | omega | exact rg_of _) (fun c_54 => ?_) (fun c_54 => ?_)
            · refine PW.iconst (pc := 61) dX11_puts_61 ?_
              refine PW.invS0x (pc := 62) dX11_puts_62 ms_X11_122 (IN _ _ _ h4' (by omega) (by omega)) rfl rfl (Nat.le_of_ble_eq_true rfl) ?_
              refine PW.if_eq (pc := 65) (tgt := 72) dX11_puts_65 (by decide) (rg_bi _) (fun c_65 => ?_) (fun c_65 => ?_)
              · refine PW.iconst (pc := 72) dX11_puts_72 ?_
                refine PW.istore (pc := 73) dX11_puts_73 (by decide) ?_
                first
                | exact mid 1 (Or.inl ⟨rfl, by omega⟩)
                | exact mid 0 (Or.inr ⟨rfl, fun o => absurd (And.intro o.1.1.1 o.1.1.2) (bi0 c_11)⟩)
                | exact mid 0 (Or.inr ⟨rfl, fun o => absurd (by omega) (bi0 c_28)⟩)
                | exact mid 0 (Or.inr ⟨rfl, fun o => absurd (by omega) (bi0 c_46)⟩)
                | exact mid 0 (Or.inr ⟨rfl, fun o => absurd (by omega) (bi0 c_65)⟩)
              · have b65 := bi1 c_65
                refine PW.iconst (pc := 68) dX11_puts_68 ?_
                refine PW.goto (pc := 69) (tgt := 73) dX11_puts_69 (by decide) ?_
                refine PW.istore (pc := 73) dX11_puts_73 (by decide) ?_
                first
                | exact mid 1 (Or.inl ⟨rfl, by omega⟩)
                | exact mid 0 (Or.inr ⟨rfl, fun o => absurd (And.intro o.1.1.1 o.1.1.2) (bi0 c_11)⟩)
                | exact mid 0 (Or.inr ⟨rfl, fun o => absurd (by omega) (bi0 c_28)⟩)
                | exact mid 0 (Or.inr ⟨rfl, fun o => absurd (by omega) (bi0 c_46)⟩)
                | exact mid 0 (Or.inr ⟨rfl, fun o => absurd (by omega) (bi0 c_65)⟩)
            · refine PW.iconst (pc := 57) dX11_puts_57 ?_
              refine PW.goto (pc := 58) (tgt := 62) dX11_puts_58 (by decide) ?_
              refine PW.invS0x (pc := 62) dX11_puts_62 ms_X11_122 (IN _ _ _ h4' (by omega) (by omega)) rfl rfl (Nat.le_of_ble_eq_true rfl) ?_
              refine PW.if_eq (pc := 65) (tgt := 72) dX11_puts_65 (by decide) (rg_bi _) (fun c_65 => ?_) (fun c_65 => ?_)
              · refine PW.iconst (pc := 72) dX11_puts_72 ?_
                refine PW.istore (pc := 73) dX11_puts_73 (by decide) ?_
                first
                | exact mid 1 (Or.inl ⟨rfl, by omega⟩)
                | exact mid 0 (Or.inr ⟨rfl, fun o => absurd (And.intro o.1.1.1 o.1.1.2) (bi0 c_11)⟩)
                | exact mid 0 (Or.inr ⟨rfl, fun o => absurd (by omega) (bi0 c_28)⟩)
                | exact mid 0 (Or.inr ⟨rfl, fun o => absurd (by omega) (bi0 c_46)⟩)
                | exact mid 0 (Or.inr ⟨rfl, fun o => absurd (by omega) (bi0 c_65)⟩)
              · have b65 := bi1 c_65
                refine PW.iconst (pc := 68) dX11_puts_68 ?_
                refine PW.goto (pc := 69) (tgt := 73) dX11_puts_69 (by decide) ?_
                refine PW.istore (pc := 73) dX11_puts_73 (by decide) ?_
                first
                | exact mid 1 (Or.inl ⟨rfl, by omega⟩)
                | exact mid 0 (Or.inr ⟨rfl, fun o => absurd (And.intro o.1.1.1 o.1.1.2) (bi0 c_11)⟩)
                | exact mid 0 (Or.inr ⟨rfl, fun o => absurd (by omega) (bi0 c_28)⟩)
                | exact mid 0 (Or.inr ⟨rfl, fun o => absurd (by omega) (bi0 c_46)⟩)
                | exact mid 0 (Or.inr ⟨rfl, fun o => absurd (by omega) (bi0 c_65)⟩)
end MPUTS
