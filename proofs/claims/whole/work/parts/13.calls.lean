section PWCALLS
variable {sc : PSc} {μ : PMI} {d kc ks : Nat} {post : PPost} {pc : Nat} {L : List (Option PV)} {st : List PV} {Γ : List PTy} {I : PIm} {R : PRm}
/-! allocation -/
def pw_zi (I : PIm) (a : Nat) : PIm := fun b j => if b = a then 0 else I b j
def pw_zr (R : PRm) (a : Nat) : PRm := fun b j => if b = a then none else R b j
theorem pw_Rep.push {w : PWd} {H H' : Heap} {T : PTy} (h : pw_Rep w Γ I R H) (hl : Γ.length < 100000) (z : H'.size = H.size + 1) (ho : ∀ q, q < H.size → H'[q]? = H[q]?) (hn : va_at w.2.2.2.1 vwCl (H.size, pw_ce w T (fun _ => 0) (fun _ => none)) H') : pw_Rep w (Γ ++ [T]) (pw_zi I Γ.length) (pw_zr R Γ.length) H' := by
  refine ⟨by rw [z, h.1]; simp; omega, by simp; omega, fun p U hp => ?_⟩
  by_cases hlt : p < Γ.length
  · rw [List.getElem?_append_left hlt] at hp
    have e1 : pw_zi I Γ.length p = I p := by funext j; simp [pw_zi]; omega
    have e2 : pw_zr R Γ.length p = R p := by funext j; simp [pw_zr]; omega
    rw [e1, e2]
    exact (h.2.2 p U hp).kept (ho _ (by rw [h.1]; show w.1 + p < w.1 + Γ.length; omega))
  · rw [List.getElem?_append_right (Nat.not_lt.mp hlt)] at hp
    have hz : p - Γ.length < 1 := (List.getElem?_eq_some_iff.mp hp).1
    have ep : p = Γ.length := by omega
    subst ep
    rw [Nat.sub_self] at hp
    cases hp
    have e1 : pw_zi I Γ.length Γ.length = fun _ => 0 := by funext j; simp [pw_zi]
    have e2 : pw_zr R Γ.length Γ.length = fun _ => none := by funext j; simp [pw_zr]
    rw [e1, e2, ← h.1]
    exact hn
theorem pw_dflt (t : FieldType) (h : pw_kind t ≤ 2) : defaultValue t = if pw_isref t = true then .null else .int 0 := by
  cases t <;> first | rfl | (exact absurd (show (3 : Nat) ≤ 2 from h) (by decide))
theorem PW.new {idx ci : Nat} {C' : String} {T : u_T} (hd : decode μ.2.1 pc = .ok (.new idx, 3)) (hcl : pw_CL ci C' T) (hwd : Cond.classLink μ.1.cls idx C' ∈ pw_gw ∧ Cond.instantiable C' (pw_fn ci) ∈ pw_gw ∧ Cond.initialized C' ∈ pw_gw) (hkd : ∀ k, k < pw_fn ci → pw_kind (pw_ft ci k) ≤ 2) (hlen : Γ.length < 100000) (k : PW sc μ d kc ks post (pc + 3) L (.inr (some Γ.length) :: st) (Γ ++ [.inl ci]) (pw_zi I Γ.length) (pw_zr R Γ.length)) : PW sc μ d (kc + 1) (ks + pw_fn ci) post pc L st Γ I R := by
  intro w p l e RM s m args below meth c Q C fin H locs cells slots ls hR hS h1 h2 hl
  obtain ⟨hc, hin, hty, hnm⟩ := hcl
  have hts := C.2.2.2.2.1
  have hK := C.2.2.2.2.2.2.2.1.1
  have hKn := hK.1 ci _ hc
  have ead : pw_ad w Γ.length = H.size := by rw [pw_ad_lt hlen, hR.1]
  refine W.newcK C.1 C.2.1 C.2.2.2.1 (hts _ hwd.1) (hts _ hwd.2.1) (hts _ hwd.2.2) rfl hd (by omega) (by omega) hKn.2.1 rfl fun H1 kC hkC e1 z1 o1 => ?_
  have K := k w p l e RM s m args below meth c Q C fin H1 locs (cells + 1) (slots + pw_fn ci) ls (hR.push hlen z1 o1 ?_) ⟨Nat.le_trans hS.1 (by omega), fun x g1 g2 => (o1 x (Nat.lt_of_lt_of_le g1 hS.1)).trans (hS.2.1 x g1 g2), hS.2.2⟩ (by omega) (by omega) hl
  · rw [List.map_cons, show pw_tv w (.inr (some Γ.length)) = .ref (pw_ad w Γ.length) from rfl, ead] at K
    exact K
  · refine ⟨_, hc, (u_born (pw_ft ci) hts hin hKn hkC e1 hty).to fun j hj => ?_⟩
    rw [pw_dflt _ (hkd j hj)]
    unfold vp_V
    rw [List.getD_eq_getElem?_getD, pw_fs_get hj]
    show _ = pw_fv w ci (fun _ => 0) (fun _ => none) j
    unfold pw_fv
    rfl
theorem PW.newi {n : Int} {N : Nat} (hd : decode μ.2.1 pc = .ok (.newarray .int, 2)) (hwd : Cond.arrayClass .int ∈ pw_gw) (hn : n = (N : Int)) (hN : N ≤ 100000) (hlen : Γ.length < 100000) (k : PW sc μ d kc ks post (pc + 2) L (.inr (some Γ.length) :: st) (Γ ++ [.inr (0, N)]) (pw_zi I Γ.length) (pw_zr R Γ.length)) : PW sc μ d (kc + 1) (ks + N) post pc L (.inl n :: st) Γ I R := by
  intro w p l e RM s m args below meth c Q C fin H locs cells slots ls hR hS h1 h2 hl
  subst hn
  have hts := C.2.2.2.2.1
  have hK := C.2.2.2.2.2.2.2.1.1
  have hr : Rg (N : Int) := by omega
  have ead : pw_ad w Γ.length = H.size := by rw [pw_ad_lt hlen, hR.1]
  have eN : (Int32.ofInt (N : Int)).toNatClampNeg = N := by
    show (Int32.ofInt (N : Int)).toInt.toNat = N
    rw [rg_toInt hr]; rfl
  refine va_newaK C.1 C.2.1 (atype := .int) (hts _ hwd) rfl hd rfl (fun h => by have := (rg_lt hr (by decide : Rg 0)).mp h; omega) eN (by show N * 4 ≤ _; omega) (by omega) (by omega) rfl fun H1 cA e1 z1 o1 hAr hNm => ?_
  have hcA : cA = w.2.2.2.2.1 := Option.some.inj (hNm.symm.trans (hK.2 0 _ rfl).2)
  subst hcA
  have K := k w p l e RM s m args below meth c Q C fin H1 locs (cells + 1) (slots + N) ls (hR.push hlen z1 o1 e1) ⟨Nat.le_trans hS.1 (by omega), fun x g1 g2 => (o1 x (Nat.lt_of_lt_of_le g1 hS.1)).trans (hS.2.1 x g1 g2), hS.2.2⟩ (by omega) (by omega) hl
  rw [List.map_cons, show pw_tv w (.inr (some Γ.length)) = .ref (pw_ad w Γ.length) from rfl, ead] at K
  exact K
theorem PW.newz {n : Int} {N : Nat} (hd : decode μ.2.1 pc = .ok (.newarray .boolean, 2)) (hwd : Cond.arrayClass .boolean ∈ pw_gw) (hn : n = (N : Int)) (hN : N ≤ 100000) (hlen : Γ.length < 100000) (k : PW sc μ d kc ks post (pc + 2) L (.inr (some Γ.length) :: st) (Γ ++ [.inr (1, N)]) (pw_zi I Γ.length) (pw_zr R Γ.length)) : PW sc μ d (kc + 1) (ks + N) post pc L (.inl n :: st) Γ I R := by
  intro w p l e RM s m args below meth c Q C fin H locs cells slots ls hR hS h1 h2 hl
  subst hn
  have hts := C.2.2.2.2.1
  have hK := C.2.2.2.2.2.2.2.1.1
  have hr : Rg (N : Int) := by omega
  have ead : pw_ad w Γ.length = H.size := by rw [pw_ad_lt hlen, hR.1]
  have eN : (Int32.ofInt (N : Int)).toNatClampNeg = N := by
    show (Int32.ofInt (N : Int)).toInt.toNat = N
    rw [rg_toInt hr]; rfl
  refine va_newaK C.1 C.2.1 (atype := .boolean) (hts _ hwd) rfl hd rfl (fun h => by have := (rg_lt hr (by decide : Rg 0)).mp h; omega) eN (by show N * 1 ≤ _; omega) (by omega) (by omega) rfl fun H1 cA e1 z1 o1 hAr hNm => ?_
  have hcA : cA = w.2.2.2.2.2.1 := Option.some.inj (hNm.symm.trans (hK.2 1 _ rfl).2)
  subst hcA
  have K := k w p l e RM s m args below meth c Q C fin H1 locs (cells + 1) (slots + N) ls (hR.push hlen z1 o1 e1) ⟨Nat.le_trans hS.1 (by omega), fun x g1 g2 => (o1 x (Nat.lt_of_lt_of_le g1 hS.1)).trans (hS.2.1 x g1 g2), hS.2.2⟩ (by omega) (by omega) hl
  rw [List.map_cons, show pw_tv w (.inr (some Γ.length)) = .ref (pw_ad w Γ.length) from rfl, ead] at K
  exact K
theorem PW.newq {idx : Nat} {n : Int} {N : Nat} (hd : decode μ.2.1 pc = .ok (.anewarray idx, 3)) (hwd : Cond.classLink μ.1.cls idx "FlushedPipes$Setting" ∈ pw_gw) (hn : n = (N : Int)) (hN : N ≤ 100000) (hlen : Γ.length < 100000) (k : PW sc μ d kc ks post (pc + 3) L (.inr (some Γ.length) :: st) (Γ ++ [.inr (2, N)]) (pw_zi I Γ.length) (pw_zr R Γ.length)) : PW sc μ d (kc + 1) (ks + N) post pc L (.inl n :: st) Γ I R := by
  intro w p l e RM s m args below meth c Q C fin H locs cells slots ls hR hS h1 h2 hl
  subst hn
  have hts := C.2.2.2.2.1
  have hK := C.2.2.2.2.2.2.2.1.1
  have hr : Rg (N : Int) := by omega
  have ead : pw_ad w Γ.length = H.size := by rw [pw_ad_lt hlen, hR.1]
  have eN : (Int32.ofInt (N : Int)).toNatClampNeg = N := by
    show (Int32.ofInt (N : Int)).toInt.toNat = N
    rw [rg_toInt hr]; rfl
  refine W.anew C.1 C.2.1 C.2.2.2.1 (hts _ hwd) (va_AO.use C.2.2.2.2.2.2.2.1.2.2) rfl hd rfl (fun h => by have := (rg_lt hr (by decide : Rg 0)).mp h; omega) (by rw [eN]; omega) (by omega) (by rw [eN]; omega) fun cA kA comp f1 f2 f3 f4 => ?_
  rw [eN]
  obtain ⟨kA', comp', -, -, -, hNm⟩ := (hK.2 2 _ rfl).2
  have hcA : cA = w.2.2.2.2.2.2 := Option.some.inj (f1.symm.trans hNm)
  subst hcA
  have z1 : (H.push ({ cls := w.2.2.2.2.2.2, slots := Array.replicate N .null, vm := .none } : Cell)).size = H.size + 1 := Array.size_push _
  have o1 : ∀ q, q < H.size → (H.push ({ cls := w.2.2.2.2.2.2, slots := Array.replicate N .null, vm := .none } : Cell))[q]? = H[q]? := fun q hq => by rw [Array.getElem?_push, if_neg (Nat.ne_of_lt hq)]
  have K := k w p l e RM s m args below meth c Q C fin _ locs (cells + 1) (slots + N) ls (hR.push hlen z1 o1 (by
    show (H.push _)[H.size]? = some (vp_cell _ (N, _))
    rw [Array.getElem?_push_size, vp_cell_q]
    rw [show (fun j : Nat => va_rf (Option.map (pw_ad w) (none : Option Nat))) = fun _ => Value.null from rfl, ← arrV_new])) ⟨Nat.le_trans hS.1 (by omega), fun x g1 g2 => (o1 x (Nat.lt_of_lt_of_le g1 hS.1)).trans (hS.2.1 x g1 g2), hS.2.2⟩ (by omega) (by omega) hl
  rw [List.map_cons, show pw_tv w (.inr (some Γ.length)) = .ref (pw_ad w Γ.length) from rfl, ead] at K
  exact K
/-! what lies outside: the script, the table of forwards -/
theorem PW.sld {i : Int} (hd : decode μ.2.1 pc = .ok (.iaload, 1)) (h0 : 0 ≤ i) (hi : i < sc.1) (hn : sc.1 ≤ 2147483647) (k : PW sc μ d kc ks post (pc + 1) L (.inl (sc.2 i.toNat).toInt :: st) Γ I R) : PW sc μ d kc ks post pc L (.inl i :: .inr (some 100000) :: st) Γ I R := by
  intro w p l e RM s m args below meth c Q C fin H locs cells slots ls hR hS h1 h2 hl
  obtain ⟨g1, g2⟩ := pw_idx h0 hi hn
  obtain ⟨hX, hb, -, -, hB⟩ := C.2.2.2.2.2.2.2.2
  have K := k w p l e RM s m args below meth c Q C fin H locs cells slots ls hR hS h1 h2 hl
  rw [List.map_cons, show pw_tv w (.inl (sc.2 i.toNat).toInt) = .int (Int32.ofInt (sc.2 i.toNat).toInt) from rfl, Int32.ofInt_toInt, ← g2] at K
  exact va_sld C.1 C.2.1 hX (Nat.lt_of_lt_of_le hb hB) (A := pw_A w) (Nat.not_le.mpr hb) hS g1 hd K
theorem PW.slen (hd : decode μ.2.1 pc = .ok (.arraylength, 1)) (k : PW sc μ d kc ks post (pc + 1) L (.inl (sc.1 : Int) :: st) Γ I R) : PW sc μ d kc ks post pc L (.inr (some 100000) :: st) Γ I R := by
  intro w p l e RM s m args below meth c Q C fin H locs cells slots ls hR hS h1 h2 hl
  obtain ⟨hX, hb, -, -, hB⟩ := C.2.2.2.2.2.2.2.2
  exact va_slen C.1 C.2.1 hX (Nat.lt_of_lt_of_le hb hB) (A := pw_A w) (Nat.not_le.mpr hb) hS hd (k w p l e RM s m args below meth c Q C fin H locs cells slots ls hR hS h1 h2 hl)
theorem PW.gets {idx : Nat} (hd : decode μ.2.1 pc = .ok (.getstatic idx, 3)) (hwd : Cond.fieldLink μ.1.cls idx "FlushedPipes" "FORWARDS_BY_BITS" "[I" ∈ pw_gw) (k : PW sc μ d kc ks post (pc + 3) L (.inr (some 100001) :: st) Γ I R) : PW sc μ d kc ks post pc L st Γ I R := by
  intro w p l e RM s m args below meth c Q C fin H locs cells slots ls hR hS h1 h2 hl
  obtain ⟨-, -, hZ, -, -⟩ := C.2.2.2.2.2.2.2.2
  exact va_gets C.1 C.2.1 hZ hS C.2.2.2.1 (C.2.2.2.2.1 _ hwd) (fun x h => h) hd (k w p l e RM s m args below meth c Q C fin H locs cells slots ls hR hS h1 h2 hl)
theorem PW.fld {i : Int} (hd : decode μ.2.1 pc = .ok (.iaload, 1)) (h0 : 0 ≤ i) (hi : i < 8) (k : PW sc μ d kc ks post (pc + 1) L (.inl (pw_fw i) :: st) Γ I R) : PW sc μ d kc ks post pc L (.inl i :: .inr (some 100001) :: st) Γ I R := by
  intro w p l e RM s m args below meth c Q C fin H locs cells slots ls hR hS h1 h2 hl
  obtain ⟨g1, g2⟩ := pw_idx (n := 8) h0 hi (by decide)
  obtain ⟨-, -, -, hT, -⟩ := C.2.2.2.2.2.2.2.2
  exact va_ti C.1 C.2.1 hT hS g1 (v := pw_tv w (.inl (pw_fw i))) (by rw [g2]; show Value.int (Int32.ofInt (pw_fw (i.toNat : Int))) = _; rw [Int.toNat_of_nonneg h0]; rfl) hd (k w p l e RM s m args below meth c Q C fin H locs cells slots ls hR hS h1 h2 hl)
theorem PW.flen (hd : decode μ.2.1 pc = .ok (.arraylength, 1)) (k : PW sc μ d kc ks post (pc + 1) L (.inl 8 :: st) Γ I R) : PW sc μ d kc ks post pc L (.inr (some 100001) :: st) Γ I R := by
  intro w p l e RM s m args below meth c Q C fin H locs cells slots ls hR hS h1 h2 hl
  obtain ⟨-, -, -, ⟨cell, t1, t2, t3, t4, t5, t6, t7⟩, -⟩ := C.2.2.2.2.2.2.2.2
  have hlt := (Array.getElem?_eq_some_iff.mp t1).1
  exact W.alen C.1 C.2.1 (by rw [show pw_ad w 100001 = w.2.2.1 from rfl]; rw [hS.2.1 _ hlt t7]; exact t1) t2 t5 rfl rfl hd (k w p l e RM s m args below meth c Q C fin H locs cells slots ls hR hS h1 h2 hl)
/-! calls -/
theorem pw_good {ws : List Cond} (h : ∀ x ∈ ws, x ∈ pw_gw) : GoodIn pw_gw ws := fun x hx => ⟨h x hx, good_of_word (List.mem_filter.mp (h x hx)).2⟩
theorem pw_cats (w : PWd) (st : List PV) : ((st.map (pw_tv w)).map fun v => v.category).sum = st.length := by
  induction st with
  | nil => rfl
  | cons a t ih => simp only [List.map_cons, List.sum_cons, ih, pw_tv_cat, List.length_cons]; omega
theorem pw_WK.warm {w : PWd} {s U : State} (hW : s.WarmedH U.vm) (h : pw_WK w s) : pw_WK w U := by
  refine ⟨va_K.moved hW.alike h.1, fun x hx => ?_, va_AO.moved hW.alike h.2.2⟩
  have h1 := h.2.1 x hx
  have h2 := (List.mem_filter.mp hx).2
  cases x <;> first | (exact absurd h2 (by decide)) | (exact absurd h2 Bool.false_ne_true) | exact va_Nw.warmM hW h1
theorem pw_RO.go {w : PWd} {s U : State} {H : Heap} {locs : List Loc} (h : pw_RO w sc s s.heap) (hS : va_S (pw_A w) s.heap H locs) (hW : s.vm.Alike U.vm) : pw_RO w sc U H := by
  obtain ⟨h1, h2, h3, h4, h5⟩ := h
  refine ⟨(h1.kept (hS.2.1 _ (Nat.lt_of_lt_of_le h2 h5) (Nat.not_le.mpr h2))).moved hW, h2, (h3.kept hS.2.1).moved hW, (h4.kept hS.2.1).moved hW, Nat.le_trans h5 hS.1⟩
theorem pw_blind {w : PWd} {av : List PV} : FrameBlind (pw_pre sc w av Γ I R) := by
  intro a U g mk q
  obtain ⟨q0, qW, qR, qP⟩ := q
  refine ⟨q0, ⟨va_K.moved (u := U) (U := U.calling g mk a) (Vm.Alike.refl U.vm) qW.1, fun x hx => ?_, va_AO.moved (u := U) (U := U.calling g mk a) (Vm.Alike.refl U.vm) qW.2.2⟩, ?_, qP⟩
  · have h1 := qW.2.1 x hx
    have h2 := (List.mem_filter.mp hx).2
    cases x <;> first | (exact absurd h2 (by decide)) | (exact absurd h2 Bool.false_ne_true) | exact va_Nw.same (u := U) rfl rfl h1
  · exact pw_RO.go (s := U) (U := U.calling g mk a) qR va_S.rf (Vm.Alike.refl U.vm)
theorem pw_after {w : PWd} {p : Program} {l : Launch} {e : Env} {RM : Room} {s : State} {m : MethodId} {args a0 : Array Value} {below : List Frame} {meth : Method} {c : Code} {Q : State → Prop} {H : Heap} {locs : List Loc} {cells slots kc' ks' : Nat} {ls : Array Slot} {st0 : List Value} {post' : PPost}
    (hr : va_Run p l e RM s m args below meth c H locs cells slots kc' ks' (F0 m pc ls st0) (st.map (pw_tv w)) (pw_post w post' a0) (pw_A w))
    (C : pw_Cx sc μ d w p RM s m args meth c)
    (fin : ∀ (v : Option PV) (Γ' : List PTy) (I' : PIm) (R' : PRm) (H' : Heap) (locs' : List Loc) (cells' slots' : Nat) (pc' : Nat) (ls' : Array Slot), post v Γ' I' R' → pw_Rep w Γ' I' R' H' → va_S (pw_A w) s.heap H' locs' → cells' ≤ RM.cells → slots' ≤ RM.slots → pw_ret μ pc' v →
      W p l e RM s m args below meth c H' locs' cells' slots' Q (F0 m pc' ls' (v.toList.map (pw_tv w))))
    (hS : va_S (pw_A w) s.heap H locs) (h1 : cells + (kc + kc') ≤ RM.cells) (h2 : slots + (ks + ks') ≤ RM.slots) (hl : pw_L w ls μ.2.2.1 L)
    (k : ∀ (v : Option PV) (Γ' : List PTy) (I' : PIm) (R' : PRm), post' v Γ' I' R' → PW sc μ d kc ks post (pc + 3) L (v.toList ++ st) Γ' I' R') : W p l e RM s m args below meth c H locs cells slots Q (F0 m pc ls st0) := by
  intro T hT X
  obtain ⟨v, st₀, t, T', Ls, h0, X', hL, e1, e2, ⟨⟨v', Γ', I', R', hv, hp, hRep⟩, hF⟩, hgo⟩ := hr T hT X
  have hv' : v = v'.map (pw_tv w) := by injection hv
  subst hv'
  rw [va_F, h0] at hF
  have K := k v' Γ' I' R' hp w p l e RM s m args below meth c Q C fin T'.heap (locs ++ Ls) (cells + kc') (slots + ks') ls (by rw [e1]; exact hRep)
    ⟨Nat.le_trans hS.1 (by rw [e1]; exact hF.1), fun q g1 g2 => by rw [e1, hF.2 q (Nat.lt_of_lt_of_le g1 hS.1) g2]; exact hS.2.1 q g1 g2, fun q hq => by
      rcases List.mem_append.mp hq with h | h
      · exact hS.2.2 q h
      · exact hL q h⟩ (by omega) (by omega) hl
  obtain ⟨t2, a1, b1⟩ := K T' rfl X'
  refine ⟨t2, hgo t2 ?_, b1⟩
  have ee : (v'.map (pw_tv w)).toList ++ st.map (pw_tv w) = (v'.toList ++ st).map (pw_tv w) := by cases v' <;> rfl
  show Steps p.tables e below (T'.setTop (F0 m (pc + 3) ls ((v'.map (pw_tv w)).toList ++ st.map (pw_tv w)))) t2
  rw [ee]
  exact a1
def pw_Y (y : MethodName) (maxL n : Nat) : Prop := y.cls ≠ "java/lang/invoke/MethodHandle" ∧ y.cls ≠ "java/lang/invoke/VarHandle" ∧ (parseMethodDescriptor y.desc).map (fun d => d.parameters.length) = some n ∧ maxL ≤ 21
def pw_MV (own : String) (idx : Nat) (μ' : PMI) (ci n : Nat) : Prop := pw_Y μ'.1 μ'.2.2.1 n ∧ (∃ (T : u_T) (N : Nat), vwCl[ci]? = some (μ'.1.cls, T, N)) ∧ Cond.code μ'.1 μ'.2.1 μ'.2.2.1 μ'.2.2.2 ∈ pw_gw ∧ Cond.methodLink own idx μ'.1 ∈ pw_gw ∧ Cond.instanceMethod μ'.1 ∈ pw_gw ∧ Cond.selects μ'.1.cls μ'.1 μ'.1 ∈ pw_gw ∧ Cond.initialized μ'.1.cls ∈ pw_gw
def pw_MS (own : String) (idx : Nat) (μ' : PMI) (n : Nat) : Prop := pw_Y μ'.1 μ'.2.2.1 n ∧ Cond.code μ'.1 μ'.2.1 μ'.2.2.1 μ'.2.2.2 ∈ pw_gw ∧ Cond.methodLink own idx μ'.1 ∈ pw_gw ∧ Cond.static μ'.1 ∈ pw_gw ∧ Cond.initialized μ'.1.cls ∈ pw_gw
def pw_MI (own : String) (idx : Nat) (μ' : PMI) (n : Nat) : Prop := pw_Y μ'.1 μ'.2.2.1 n ∧ μ'.1.name = "<init>" ∧ μ'.2.2.2 = none ∧ Cond.code μ'.1 μ'.2.1 μ'.2.2.1 none ∈ pw_gw ∧ Cond.methodLink own idx μ'.1 ∈ pw_gw ∧ Cond.instanceMethod μ'.1 ∈ pw_gw ∧ Cond.initialized μ'.1.cls ∈ pw_gw
def pw_MN (own : String) (idx : Nat) (μ' : PMI) (n : Nat) : Prop := pw_Y μ'.1 μ'.2.2.1 n ∧ μ'.1.name = "<init>" ∧ μ'.2.2.2 = none ∧ Cond.code μ'.1 μ'.2.1 μ'.2.2.1 none ∈ pw_gw ∧ (∃ host : String, Cond.methodLinkNest own idx μ'.1 host ∈ pw_nest) ∧ Cond.instanceMethod μ'.1 ∈ pw_gw ∧ Cond.initialized μ'.1.cls ∈ pw_gw
theorem pw_wsgood {μ' : PMI} (h : Cond.code μ'.1 μ'.2.1 μ'.2.2.1 μ'.2.2.2 ∈ pw_gw) : GoodIn pw_gw (pw_ws μ') := pw_good fun x hx => by
  rcases List.mem_cons.mp hx with rfl | hx
  · exact h
  · exact hx
theorem pw_stk (w : PWd) (as st : List PV) (a : Nat) : (as.reverse ++ .inr (some a) :: st).map (pw_tv w) = (as.map (pw_tv w)).reverse ++ .ref (pw_ad w a) :: st.map (pw_tv w) := by
  rw [List.map_append, List.map_reverse, List.map_cons]
  rfl
theorem PW.invV {idx ci n a kc' ks' : Nat} {μ' : PMI} {as st0 : List PV} {post' : PPost} (hd : decode μ.2.1 pc = .ok (.invokevirtual idx, 3)) (hm : pw_MV μ.1.cls idx μ' ci n) (hc : PC sc μ' d kc' ks' (.inr (some a) :: as) Γ I R post') (hΓ : Γ[a]? = some (.inl ci)) (hn : as.length = n) (hst : st0 = as.reverse ++ .inr (some a) :: st) (hr : st.length ≤ 8)
    (k : ∀ (v : Option PV) (Γ' : List PTy) (I' : PIm) (R' : PRm), post' v Γ' I' R' → PW sc μ (d + 1) kc ks post (pc + 3) L (v.toList ++ st) Γ' I' R') : PW sc μ (d + 1) (kc + kc') (ks + ks') post pc L st0 Γ I R := by
  intro w p l e RM s m args below meth c Q C fin H locs cells slots ls hR hS h1 h2 hl
  subst hst
  obtain ⟨hx, hb, hml, hown, hts, hnm, ⟨hf1, hf2⟩, hWK, hRO⟩ := id C
  obtain ⟨⟨y1, y2, y3, y4⟩, ⟨T, N, hcl⟩, m1, m2, m3, m4, m5⟩ := hm
  refine pw_after (kc' := kc') (ks' := ks') (va_runV (As := as.map (pw_tv w)) (b := pw_ad w a) (own := μ.1.cls) (C := μ'.1.cls) (Ts := pw_gw) ⟨hx, hb, hml, hown, hts⟩ (hc w l)
    ⟨callB_of n hts (pw_wsgood m1) rfl rfl rfl (hts _ m5) (hts _ m2) ⟨y1, y2, y3⟩ ⟨by show d + 1 + 1 ≤ _; exact hf1, by show 8 + (μ'.2.2.1 + 11) + 40 * (d + 1) ≤ _; omega⟩, hts _ m3, hts _ m4⟩
    ⟨pw_blind, va_recv hWK.1 (hR.P hΓ) (ci := ci) (q0 := 0) hcl rfl, fun U hU hW => ⟨rfl, pw_WK.warm hW hWK, by rw [hU]; exact hRO.go hS hW.alike, by rw [hU]; exact hR⟩⟩
    rfl (by rw [List.length_map]; exact hn) hl.2.1 (pw_stk w as st a) (by rw [show 2 * (F0 m pc ls _).monitorRoom = 0 from rfl, pw_cats]; omega) hd ⟨by omega, by omega⟩) C fin hS h1 h2 hl k
theorem PW.invS {idx n kc' ks' : Nat} {μ' : PMI} {as st0 : List PV} {post' : PPost} (hd : decode μ.2.1 pc = .ok (.invokestatic idx, 3)) (hm : pw_MS μ.1.cls idx μ' n) (hc : PC sc μ' d kc' ks' as Γ I R post') (hn : as.length = n) (hst : st0 = as.reverse ++ st) (hr : st.length ≤ 8)
    (k : ∀ (v : Option PV) (Γ' : List PTy) (I' : PIm) (R' : PRm), post' v Γ' I' R' → PW sc μ (d + 1) kc ks post (pc + 3) L (v.toList ++ st) Γ' I' R') : PW sc μ (d + 1) (kc + kc') (ks + ks') post pc L st0 Γ I R := by
  intro w p l e RM s m args below meth c Q C fin H locs cells slots ls hR hS h1 h2 hl
  subst hst
  obtain ⟨hx, hb, hml, hown, hts, hnm, ⟨hf1, hf2⟩, hWK, hRO⟩ := id C
  obtain ⟨⟨y1, y2, y3, y4⟩, m1, m2, m3, m4⟩ := hm
  refine pw_after (kc' := kc') (ks' := ks') (va_runS (As := as.map (pw_tv w)) (own := μ.1.cls) (Ts := pw_gw) ⟨hx, hb, hml, hown, hts⟩ (hc w l)
    ⟨callB_of n hts (pw_wsgood m1) rfl rfl rfl (hts _ m4) (hts _ m2) ⟨y1, y2, y3⟩ ⟨by show d + 1 + 1 ≤ _; exact hf1, by show 8 + (μ'.2.2.1 + 11) + 40 * (d + 1) ≤ _; omega⟩, hts _ m3⟩
    ⟨pw_blind, fun U hU hW => ⟨rfl, pw_WK.warm hW hWK, by rw [hU]; exact hRO.go hS hW.alike, by rw [hU]; exact hR⟩⟩
    rfl (by rw [List.length_map]; exact hn) hl.2.1 (by show (as.reverse ++ st).map (pw_tv w) = _; rw [List.map_append, List.map_reverse]) (by rw [show 2 * (F0 m pc ls _).monitorRoom = 0 from rfl, pw_cats]; omega) hd ⟨by omega, by omega⟩) C fin hS h1 h2 hl k
theorem PW.invI {idx n a kc' ks' : Nat} {μ' : PMI} {as st0 : List PV} {post' : PPost} (hd : decode μ.2.1 pc = .ok (.invokespecial idx, 3)) (hm : pw_MI μ.1.cls idx μ' n) (hc : PC sc μ' d kc' ks' (.inr (some a) :: as) Γ I R post') (hn : as.length = n) (hst : st0 = as.reverse ++ .inr (some a) :: st) (hr : st.length ≤ 8)
    (k : ∀ (v : Option PV) (Γ' : List PTy) (I' : PIm) (R' : PRm), post' v Γ' I' R' → PW sc μ (d + 1) kc ks post (pc + 3) L (v.toList ++ st) Γ' I' R') : PW sc μ (d + 1) (kc + kc') (ks + ks') post pc L st0 Γ I R := by
  intro w p l e RM s m args below meth c Q C fin H locs cells slots ls hR hS h1 h2 hl
  subst hst
  obtain ⟨hx, hb, hml, hown, hts, hnm, ⟨hf1, hf2⟩, hWK, hRO⟩ := id C
  obtain ⟨⟨y1, y2, y3, y4⟩, yn, yr, m1, m2, m3, m4⟩ := hm
  have hG : GoodIn pw_gw (pw_ws μ') := pw_wsgood (by rw [yr]; exact m1)
  refine pw_after (kc' := kc') (ks' := ks') (va_runI (As := as.map (pw_tv w)) (b := pw_ad w a) (own := μ.1.cls) (Ts := pw_gw) ⟨hx, hb, hml, hown, hts⟩ (hc w l)
    ⟨callB_of (ws' := pw_gw) n hts hG (by rw [pw_ws, yr]) rfl rfl (hts _ m4) (hts _ m2) ⟨y1, y2, y3⟩ ⟨by show d + 1 + 1 ≤ _; exact hf1, by show 8 + (μ'.2.2.1 + 11) + 40 * (d + 1) ≤ _; omega⟩, yn, hts _ m3⟩
    ⟨pw_blind, fun U hU hW => ⟨rfl, pw_WK.warm hW hWK, by rw [hU]; exact hRO.go hS hW.alike, by rw [hU]; exact hR⟩⟩
    rfl (by rw [List.length_map]; exact hn) hl.2.1 (pw_stk w as st a) (by rw [show 2 * (F0 m pc ls _).monitorRoom = 0 from rfl, pw_cats]; omega) hd ⟨by omega, by omega⟩) C fin hS h1 h2 hl k
theorem PW.invN {idx n a kc' ks' : Nat} {μ' : PMI} {as st0 : List PV} {post' : PPost} (hd : decode μ.2.1 pc = .ok (.invokespecial idx, 3)) (hm : pw_MN μ.1.cls idx μ' n) (hc : PC sc μ' d kc' ks' (.inr (some a) :: as) Γ I R post') (hn : as.length = n) (hst : st0 = as.reverse ++ .inr (some a) :: st) (hr : st.length ≤ 8)
    (k : ∀ (v : Option PV) (Γ' : List PTy) (I' : PIm) (R' : PRm), post' v Γ' I' R' → PW sc μ (d + 1) kc ks post (pc + 3) L (v.toList ++ st) Γ' I' R') : PW sc μ (d + 1) (kc + kc') (ks + ks') post pc L st0 Γ I R := by
  intro w p l e RM s m args below meth c Q C fin H locs cells slots ls hR hS h1 h2 hl
  subst hst
  obtain ⟨hx, hb, hml, hown, hts, hnm, ⟨hf1, hf2⟩, hWK, hRO⟩ := id C
  obtain ⟨⟨y1, y2, y3, y4⟩, yn, yr, m1, ⟨host, m2⟩, m3, m4⟩ := hm
  have hG : GoodIn pw_gw (pw_ws μ') := pw_wsgood (by rw [yr]; exact m1)
  refine pw_after (kc' := kc') (ks' := ks') (va_runIN (As := as.map (pw_tv w)) (b := pw_ad w a) (own := μ.1.cls) (Ts := pw_gw) ⟨hx, hb, hml, hown, hts⟩ (hc w l)
    ⟨va_cnB (ws' := pw_gw) n hts hG (by rw [pw_ws, yr]) rfl rfl (hWK.2.1 _ m2) (hts _ m4) ⟨y1, y2, y3⟩ ⟨by show d + 1 + 1 ≤ _; exact hf1, by show 8 + (μ'.2.2.1 + 11) + 40 * (d + 1) ≤ _; omega⟩, yn, hts _ m3⟩
    ⟨pw_blind, fun U hU hW => ⟨rfl, pw_WK.warm hW hWK, by rw [hU]; exact hRO.go hS hW.alike, by rw [hU]; exact hR⟩⟩
    rfl (by rw [List.length_map]; exact hn) hl.2.1 (pw_stk w as st a) (by rw [show 2 * (F0 m pc ls _).monitorRoom = 0 from rfl, pw_cats]; omega) hd ⟨by omega, by omega⟩) C fin hS h1 h2 hl k
theorem PW.obj {idx a : Nat} (hd : decode μ.2.1 pc = .ok (.invokespecial idx, 3)) (hw : Cond.methodLink μ.1.cls idx Lib.objectInit ∈ pw_gw ∧ Cond.instanceMethod Lib.objectInit ∈ pw_gw ∧ Cond.code Lib.objectInit ⟨#[0xb1]⟩ 1 none ∈ pw_gw) (hr : st.length ≤ 8) (k : PW sc μ d kc ks post (pc + 3) L st Γ I R) : PW sc μ d kc ks post pc L (.inr (some a) :: st) Γ I R := by
  intro w p l e RM s m args below meth c Q C fin H locs cells slots ls hR hS h1 h2 hl
  have hts := C.2.2.2.2.1
  have hf := C.2.2.2.2.2.2.1
  exact W.objInit C.1 C.2.1 C.2.2.2.1 (hts _ hw.1) (hts _ hw.2.1) (hts _ hw.2.2) rfl (hl.2.1.trans C.2.2.1.symm) rfl hd (by omega) (by rw [show 2 * (F0 m pc ls _).monitorRoom = 0 from rfl, pw_cats]; omega) (k w p l e RM s m args below meth c Q C fin H locs cells slots ls hR hS h1 h2 hl)
/-! a contract out of a walk -/
theorem PC.ofPW {av : List PV} (hy : plainName μ.1.cls = true) (hn : av.length ≤ μ.2.2.1) (k : PW sc μ d kc ks post 0 (pw_L0 av μ.2.2.1) [] Γ I R) : PC sc μ d kc ks av Γ I R post := by
  intro w l
  refine Met.ofW (cc := μ.2.1) (maxL := μ.2.2.1) (ret := μ.2.2.2) hy rfl ?_
  intro p e s m args below meth c s₁ B hml hv
  obtain ⟨rfl, hWK, hRO, hRep⟩ := hv
  have hts := atoms_spec (ws := pw_ws μ) B.pre
  have hown : s.vm.findClass μ.1.cls = some m.cls := findClass_of_methodNamed B.named
  have hnm : meth.name = μ.1.name := (name_of_methodNamed B.named B.method).1
  have hlocks := B.notSynchronized
  rw [lg_entry_eq]
  refine k w p l e (headSpec (pw_ws μ) (pw_rm d kc ks)).room s m _ below meth c _ ⟨B.exec, B.bytes, hml, hown, fun x hx => hts x (List.mem_cons_of_mem _ hx), hnm, ⟨Nat.le_refl _, Nat.le_refl _⟩, hWK, hRO⟩ ?_ s.heap [] 0 0 _ hRep va_S.rf (by show 0 + kc ≤ kc; omega) (by show 0 + ks ≤ ks; omega) (pw_L.entry hn)
  intro v Γ' I' R' H' locs' cells' slots' pc' ls' hp hR' hS' hc' hs' hret
  refine W.widen (k := kc) (n := ks) hc' hs' ?_
  match v, hret with
  | none, hret =>
    exact W.vret B.exec B.bytes (B.returns.trans hret.2) (fun t ht hW => ⟨⟨none, Γ', I', R', rfl, hp, by rw [ht]; exact hR'⟩, hS'.F ht⟩) hS'.2.2 hret.1
  | some (.inl z), hret =>
    rcases hret.2 with h | ⟨h, hz⟩
    · exact W.iret B.exec B.bytes (B.returns.trans h) (fun t ht hW => ⟨⟨some (.inl z), Γ', I', R', rfl, hp, by rw [ht]; exact hR'⟩, hS'.F ht⟩) hS'.2.2 hret.1
    · exact W.zret B.exec B.bytes (B.returns.trans h) (pw_fit_bool (t := .boolean) rfl hz).1 (fun t ht hW => ⟨⟨some (.inl z), Γ', I', R', rfl, hp, by rw [ht]; exact hR'⟩, hS'.F ht⟩) hS'.2.2 hret.1
  | some (.inr _), hret => exact absurd hret id
end PWCALLS
