section PWHEAP
variable {sc : PSc} {μ : PMI} {d kc ks : Nat} {post : PPost} {pc : Nat} {L : List (Option PV)} {st : List PV} {Γ : List PTy} {I : PIm} {R : PRm}
def pw_kind : FieldType → Nat
  | .int => 0
  | .boolean => 1
  | .object _ => 2
  | .array _ => 2
  | _ => 3
theorem pw_kind_ref {t : FieldType} (h : pw_kind t = 2) : pw_isref t = true := by
  cases t <;> first | rfl | (exact absurd h (by decide))
theorem pw_kind_int {t : FieldType} (h : pw_kind t ≤ 1) : pw_isref t = false := by
  cases t <;> first | rfl | (exact absurd h (by show ¬ 2 ≤ 1; decide))
def pw_CL (ci : Nat) (C : String) (T : u_T) : Prop := vwCl[ci]? = some (C, T, pw_fn ci) ∧ (∀ x ∈ u_ws C T (pw_fn ci), x ∈ pw_gw) ∧ (∀ k, k < pw_fn ci → parseFieldDescriptor (T k).2.2.1 = some (pw_ft ci k)) ∧ (∀ a, a < pw_fn ci → ∀ b, b < pw_fn ci → a ≠ b → (T a).2.1 ≠ (T b).2.1)
def pw_FL (own : String) (idx ci : Nat) (kz : Int) (kind : Nat) (fn : Bool) : Prop := ∃ (C : String) (T : u_T) (k : Nat), pw_CL ci C T ∧ k < pw_fn ci ∧ (k : Int) = kz ∧ pw_kind (pw_ft ci k) = kind ∧ (T k).2.2.2 = fn ∧ (T k).1 = C ∧ Cond.fieldLink own idx C (T k).2.1 (T k).2.2.1 ∈ pw_gw
theorem pw_fs_get {w : PWd} {ci k : Nat} {i : Int → Int} {r : Int → Option Nat} (h : k < pw_fn ci) : (pw_fs w ci i r)[k]? = some (pw_fv w ci i r k) := by
  unfold pw_fs
  rw [List.getElem?_map, List.getElem?_range h]
  rfl
theorem pw_fs_len {w : PWd} {ci : Nat} {i : Int → Int} {r : Int → Option Nat} : (pw_fs w ci i r).length = pw_fn ci := by
  simp [pw_fs]
theorem pw_fs_set {w : PWd} {ci k : Nat} {i i' : Int → Int} {r r' : Int → Option Nat} {v : Value} (h : k < pw_fn ci) (hv : pw_fv w ci i' r' k = v) (ho : ∀ j, j ≠ k → pw_fv w ci i' r' j = pw_fv w ci i r j) : (pw_fs w ci i r).set k v = pw_fs w ci i' r' := by
  apply List.ext_getElem?
  intro j
  by_cases hj : j < pw_fn ci
  · by_cases e : j = k
    · subst e
      rw [List.getElem?_set_self (by rw [pw_fs_len]; exact h), pw_fs_get hj, hv]
    · rw [List.getElem?_set_ne (fun q => e q.symm), pw_fs_get hj, pw_fs_get hj, ho j e]
  · rw [List.getElem?_eq_none (by rw [List.length_set, pw_fs_len]; omega), List.getElem?_eq_none (by rw [pw_fs_len]; omega)]
theorem PW.geti {idx ci a : Nat} {kz : Int} {kind : Nat} {fn : Bool} (hd : decode μ.2.1 pc = .ok (.getfield idx, 3)) (hf : pw_FL μ.1.cls idx ci kz kind fn) (hk : kind ≤ 1) (hΓ : Γ[a]? = some (.inl ci)) (k : PW sc μ d kc ks post (pc + 3) L (.inl (I a kz) :: st) Γ I R) : PW sc μ d kc ks post pc L (.inr (some a) :: st) Γ I R := by
  intro w p l e RM s m args below meth c Q C fin H locs cells slots ls hR hS h1 h2 hl
  obtain ⟨C', T, kf, ⟨hc, hin, hty, hnm⟩, hlt, rfl, hkd, hfi, hdec, hlk⟩ := hf
  refine va_get C.1 C.2.1 (Ts := pw_gw) (C := C') (T := T) (N := pw_fn ci) (ci := ci) (ref := C') C.2.2.2.2.1 hin C.2.2.2.1 C.2.2.2.2.2.2.2.1.1 (hR.P hΓ) 0 rfl hc kf hlt (C.2.2.2.2.1 _ hlk) (fun x h => by rw [hdec] at h; exact h) (v := pw_tv w (.inl (I a kf))) ?_ hd (k w p l e RM s m args below meth c Q C fin H locs cells slots ls hR hS h1 h2 hl)
  rw [pw_fs_get hlt]
  unfold pw_fv
  rw [pw_kind_int (by rw [hkd]; exact hk)]
  rfl
theorem PW.getr {idx ci a q : Nat} {kz : Int} {fn : Bool} (hd : decode μ.2.1 pc = .ok (.getfield idx, 3)) (hf : pw_FL μ.1.cls idx ci kz 2 fn) (hΓ : Γ[a]? = some (.inl ci)) (hq : R a kz = some q) (k : PW sc μ d kc ks post (pc + 3) L (.inr (some q) :: st) Γ I R) : PW sc μ d kc ks post pc L (.inr (some a) :: st) Γ I R := by
  intro w p l e RM s m args below meth c Q C fin H locs cells slots ls hR hS h1 h2 hl
  obtain ⟨C', T, kf, ⟨hc, hin, hty, hnm⟩, hlt, rfl, hkd, hfi, hdec, hlk⟩ := hf
  refine va_get C.1 C.2.1 (Ts := pw_gw) (C := C') (T := T) (N := pw_fn ci) (ci := ci) (ref := C') C.2.2.2.2.1 hin C.2.2.2.1 C.2.2.2.2.2.2.2.1.1 (hR.P hΓ) 0 rfl hc kf hlt (C.2.2.2.2.1 _ hlk) (fun x h => by rw [hdec] at h; exact h) (v := pw_tv w (.inr (some q))) ?_ hd (k w p l e RM s m args below meth c Q C fin H locs cells slots ls hR hS h1 h2 hl)
  rw [pw_fs_get hlt]
  unfold pw_fv
  rw [pw_kind_ref hkd, hq]
  rfl
theorem PW.getn {idx ci a : Nat} {kz : Int} {fn : Bool} (hd : decode μ.2.1 pc = .ok (.getfield idx, 3)) (hf : pw_FL μ.1.cls idx ci kz 2 fn) (hΓ : Γ[a]? = some (.inl ci)) (hq : R a kz = none) (k : PW sc μ d kc ks post (pc + 3) L (.inr none :: st) Γ I R) : PW sc μ d kc ks post pc L (.inr (some a) :: st) Γ I R := by
  intro w p l e RM s m args below meth c Q C fin H locs cells slots ls hR hS h1 h2 hl
  obtain ⟨C', T, kf, ⟨hc, hin, hty, hnm⟩, hlt, rfl, hkd, hfi, hdec, hlk⟩ := hf
  refine va_get C.1 C.2.1 (Ts := pw_gw) (C := C') (T := T) (N := pw_fn ci) (ci := ci) (ref := C') C.2.2.2.2.1 hin C.2.2.2.1 C.2.2.2.2.2.2.2.1.1 (hR.P hΓ) 0 rfl hc kf hlt (C.2.2.2.2.1 _ hlk) (fun x h => by rw [hdec] at h; exact h) (v := pw_tv w (.inr none)) ?_ hd (k w p l e RM s m args below meth c Q C fin H locs cells slots ls hR hS h1 h2 hl)
  rw [pw_fs_get hlt]
  unfold pw_fv
  rw [pw_kind_ref hkd, hq]
  rfl
/-- a store into a field, any kind: the new memory is told by what it says of the cell -/
theorem pw_put {idx ci a : Nat} {kz : Int} {kind : Nat} {fn : Bool} {v : PV} {I' : PIm} {R' : PRm} (hd : decode μ.2.1 pc = .ok (.putfield idx, 3)) (hf : pw_FL μ.1.cls idx ci kz kind fn) (hfn : fn = false ∨ (μ.1.name = "<init>" ∧ ∃ T, pw_CL ci μ.1.cls T)) (hΓ : Γ[a]? = some (.inl ci))
    (hfit : ∀ w : PWd, ∀ t : FieldType, pw_kind t = kind → narrow t (pw_tv w v) = pw_tv w v ∧ fits t (pw_tv w v) = true)
    (hset : ∀ w : PWd, ∀ kf : Nat, kf < pw_fn ci → (kf : Int) = kz → pw_kind (pw_ft ci kf) = kind → (pw_fs w ci (I a) (R a)).set kf (pw_tv w v) = pw_fs w ci (I' a) (R' a)) (hI : ∀ q, q ≠ a → I' q = I q) (hR' : ∀ q, q ≠ a → R' q = R q)
    (k : PW sc μ d kc ks post (pc + 3) L st Γ I' R') : PW sc μ d kc ks post pc L (v :: .inr (some a) :: st) Γ I R := by
  intro w p l e RM s m args below meth c Q C fin H locs cells slots ls hR hS h1 h2 hl
  obtain ⟨C', T, kf, ⟨hc, hin, hty, hnm⟩, hlt, hkz, hkd, hfi, hdec, hlk⟩ := hf
  have hts := C.2.2.2.2.1
  have hK := C.2.2.2.2.2.2.2.1.1
  have hap := va_apart (own := μ.1.cls) hts hin (pw_ft ci) hty hnm hK hc
  have hat := hR.2.2 a _ hΓ
  rw [← hR.ad hΓ] at hat
  obtain ⟨r, g1, cell, q1, q2, q3, q4⟩ := hat
  have hr : r = (C', T, pw_fn ci) := Option.some.inj (g1.symm.trans hc)
  subst hr
  obtain ⟨hSl, hfc, kC, hkC, hkind⟩ := hK.1 ci _ hc
  obtain ⟨cf, kF, fi, f, hi, hsl⟩ := hSl kf hlt
  have hst := (u_facts hfc hkC (u_lays hts hin hlt) hi).1
  have hlink := hts _ hlk
  have hi2 : s.fieldFound? C' (T kf).2.1 (T kf).2.2.1 = some (cf, kF, fi, f) := by
    have hi' := hi
    dsimp only at hi'
    rw [hdec] at hi'
    exact hi'
  have hft := hfit w (pw_ft ci kf) hkd
  have fin2 : ∀ H' : Heap, H'[pw_ad w a]? = some (cell.setSlot f.slot (pw_tv w v)) → H'.size = H.size → (∀ q, q ≠ pw_ad w a → H'[q]? = H[q]?) → pw_Rep w Γ I' R' H' := by
    intro H' e1 e2 e3
    refine hR.store hΓ ?_ e2 e3 hI hR'
    rw [hsl] at e1
    have hse := hset w kf hlt hkz hkd
    refine ⟨_, hc, t_OB.to (V := updV (vp_V (pw_fs w ci (I a) (R a))) kf (pw_tv w v)) ⟨_, e1, q2, q3, t_set q4 hap hlt (pw_tv w v)⟩ (fun j _ => ?_)⟩
    rw [vp_updV_set (by rw [pw_fs_len]; exact hlt) (pw_tv w v) j, hse]
  have hlay := hts _ (hin _ (u_in_lay hlt))
  unfold u_lay at hlay
  by_cases hfn' : fn = false
  · rw [if_neg (by rw [hfi, hfn']; decide)] at hlay
    have h6 := u_store hfc hkC hkind hlay hi (hty kf hlt) hft.1 hft.2
    refine W.putK C.1 C.2.1 (f := f) ⟨C.2.2.2.1, hlink, ⟨_, _, _, hi2⟩, hst⟩ (by rw [q2]; exact h6) q1 q3 (by rw [hsl]; exact k2_hasslot (q4 kf hlt)) rfl rfl hd fun H' e1 e2 e3 => ?_
    exact k w p l e RM s m args below meth c Q C fin H' _ cells slots ls (fin2 H' e1 e2 e3) (hS.put e2 e3 (pw_inA hR hΓ)) h1 h2 hl
  · have hfn2 : fn = true := by simpa using hfn'
    rcases hfn with h | ⟨hini, T', hcl', -⟩
    · exact absurd h hfn'
    · have hC : C' = μ.1.cls := by
        have := Option.some.inj (hc.symm.trans hcl')
        exact congrArg (fun x => x.1) this
      rw [if_pos (by rw [hfi, hfn2])] at hlay
      have hcf : m.cls = cf := by
        obtain ⟨_, _, c', _, _, _, -, -, hf', -, -, -, hown2, -⟩ := Cond.laysFinal_spec hlay
        have e1 : c' = cf := by have := hi.symm.trans hf'; simp at this; exact this.1.symm
        rw [hdec, hC] at hown2
        rw [← e1]; exact Option.some.inj (C.2.2.2.1.symm.trans hown2)
      have h6 := u_fits hfc hkC hkind (Or.inr hlay) hi (hty kf hlt) hft.1 hft.2
      refine W.putFinK C.1 C.2.1 C.2.2.2.1 hlink hi2 hst hcf (by rw [C.2.2.2.2.2.1]; exact hini) (by rw [q2]; exact h6) q1 q3 (by rw [hsl]; exact k2_hasslot (q4 kf hlt)) rfl rfl hd fun H' e1 e2 e3 => ?_
      exact k w p l e RM s m args below meth c Q C fin H' _ cells slots ls (fin2 H' e1 e2 e3) (hS.put e2 e3 (pw_inA hR hΓ)) h1 h2 hl
theorem pw_up_ne {I : PIm} {a : Nat} {i v : Int} : ∀ q, q ≠ a → pw_up I a i v q = I q := by
  intro q hq
  funext j
  simp [pw_up, hq]
theorem pw_upr_ne {R : PRm} {a : Nat} {i : Int} {v : Option Nat} : ∀ q, q ≠ a → pw_upr R a i v q = R q := by
  intro q hq
  funext j
  simp [pw_upr, hq]
theorem pw_fit_int {t : FieldType} (h : pw_kind t = 0) (x : Int32) : narrow t (.int x) = .int x ∧ fits t (.int x) = true := by
  cases t <;> first | (exact absurd h (by decide)) | (exact absurd (show (2 : Nat) = _ from h) (by decide)) | exact ⟨rfl, rfl⟩
theorem pw_fit_bool {t : FieldType} (h : pw_kind t = 1) {z : Int} (hz : z = 0 ∨ z = 1) : narrow t (.int (Int32.ofInt z)) = .int (Int32.ofInt z) ∧ fits t (.int (Int32.ofInt z)) = true := by
  cases t <;> first | (exact absurd h (by decide)) | (exact absurd (show (2 : Nat) = _ from h) (by decide)) | (rcases hz with rfl | rfl <;> exact ⟨by decide, by decide⟩)
theorem pw_fit_ref {t : FieldType} (h : pw_kind t = 2) (q : Nat) : narrow t (.ref q) = .ref q ∧ fits t (.ref q) = true := by
  cases t <;> first | (exact absurd h (by decide)) | (exact absurd (show (2 : Nat) = _ from h) (by decide)) | exact ⟨rfl, rfl⟩
theorem pw_set_int {a : Nat} {kz z : Int} {ci : Nat} {w : PWd} {kf : Nat} (h : kf < pw_fn ci) (e : (kf : Int) = kz) (hk : pw_kind (pw_ft ci kf) ≤ 1) : (pw_fs w ci (I a) (R a)).set kf (pw_tv w (.inl z)) = pw_fs w ci (pw_up I a kz z a) (R a) := by
  subst e
  refine pw_fs_set h ?_ ?_
  · unfold pw_fv
    rw [pw_kind_int hk]
    simp [pw_up, pw_tv]
  · intro j hj
    unfold pw_fv
    rw [show pw_up I a kf z a (j : Int) = I a j by simp [pw_up]; omega]
theorem pw_set_ref {a q : Nat} {kz : Int} {ci : Nat} {w : PWd} {kf : Nat} (h : kf < pw_fn ci) (e : (kf : Int) = kz) (hk : pw_kind (pw_ft ci kf) = 2) : (pw_fs w ci (I a) (R a)).set kf (pw_tv w (.inr (some q))) = pw_fs w ci (I a) (pw_upr R a kz (some q) a) := by
  subst e
  refine pw_fs_set h ?_ ?_
  · unfold pw_fv
    rw [pw_kind_ref hk]
    simp [pw_upr, pw_tv, va_rf]
  · intro j hj
    unfold pw_fv
    rw [show pw_upr R a kf (some q) a (j : Int) = R a j by simp [pw_upr]; omega]
theorem PW.puti {idx ci a : Nat} {kz z : Int} (hd : decode μ.2.1 pc = .ok (.putfield idx, 3)) (hf : pw_FL μ.1.cls idx ci kz 0 false) (hΓ : Γ[a]? = some (.inl ci)) (k : PW sc μ d kc ks post (pc + 3) L st Γ (pw_up I a kz z) R) : PW sc μ d kc ks post pc L (.inl z :: .inr (some a) :: st) Γ I R :=
  pw_put hd hf (Or.inl rfl) hΓ (fun w t h => pw_fit_int h _) (fun w kf h e hk => pw_set_int h e (by omega)) pw_up_ne (fun _ _ => rfl) k
theorem PW.putz {idx ci a : Nat} {kz z : Int} (hd : decode μ.2.1 pc = .ok (.putfield idx, 3)) (hf : pw_FL μ.1.cls idx ci kz 1 false) (hΓ : Γ[a]? = some (.inl ci)) (hz : z = 0 ∨ z = 1) (k : PW sc μ d kc ks post (pc + 3) L st Γ (pw_up I a kz z) R) : PW sc μ d kc ks post pc L (.inl z :: .inr (some a) :: st) Γ I R :=
  pw_put hd hf (Or.inl rfl) hΓ (fun w t h => pw_fit_bool h hz) (fun w kf h e hk => pw_set_int h e (by omega)) pw_up_ne (fun _ _ => rfl) k
theorem PW.putr {idx ci a q : Nat} {kz : Int} (hd : decode μ.2.1 pc = .ok (.putfield idx, 3)) (hf : pw_FL μ.1.cls idx ci kz 2 false) (hΓ : Γ[a]? = some (.inl ci)) (k : PW sc μ d kc ks post (pc + 3) L st Γ I (pw_upr R a kz (some q))) : PW sc μ d kc ks post pc L (.inr (some q) :: .inr (some a) :: st) Γ I R :=
  pw_put hd hf (Or.inl rfl) hΓ (fun w t h => pw_fit_ref h _) (fun w kf h e hk => pw_set_ref h e hk) (fun _ _ => rfl) pw_upr_ne k
theorem PW.putrF {idx ci a q : Nat} {kz : Int} {T : u_T} (hd : decode μ.2.1 pc = .ok (.putfield idx, 3)) (hf : pw_FL μ.1.cls idx ci kz 2 true) (hini : μ.1.name = "<init>") (hcl : pw_CL ci μ.1.cls T) (hΓ : Γ[a]? = some (.inl ci)) (k : PW sc μ d kc ks post (pc + 3) L st Γ I (pw_upr R a kz (some q))) : PW sc μ d kc ks post pc L (.inr (some q) :: .inr (some a) :: st) Γ I R :=
  pw_put hd hf (Or.inr ⟨hini, T, hcl⟩) hΓ (fun w t h => pw_fit_ref h _) (fun w kf h e hk => pw_set_ref h e hk) (fun _ _ => rfl) pw_upr_ne k
/-! arrays -/
theorem pw_idx {i : Int} {n : Nat} (h0 : 0 ≤ i) (h1 : i < n) (hn : n ≤ 2147483647) : vp_in (Int32.ofInt i) n ∧ (Int32.ofInt i).toNatClampNeg = i.toNat := by
  have hr : Rg i := by omega
  have e : (Int32.ofInt i).toNatClampNeg = i.toNat := by
    show (Int32.ofInt i).toInt.toNat = i.toNat
    rw [rg_toInt hr]
  refine ⟨?_, e⟩
  rintro (h | h)
  · have := (rg_lt hr (by decide : Rg 0)).mp h
    omega
  · rw [e] at h
    omega
theorem PW.iald {a n : Nat} {i : Int} (hd : decode μ.2.1 pc = .ok (.iaload, 1)) (hΓ : Γ[a]? = some (.inr (0, n))) (h0 : 0 ≤ i) (hi : i < n) (hn : n ≤ 2147483647) (k : PW sc μ d kc ks post (pc + 1) L (.inl (I a i) :: st) Γ I R) : PW sc μ d kc ks post pc L (.inl i :: .inr (some a) :: st) Γ I R := by
  intro w p l e RM s m args below meth c Q C fin H locs cells slots ls hR hS h1 h2 hl
  obtain ⟨g1, g2⟩ := pw_idx h0 hi hn
  refine va_iald C.1 C.2.1 C.2.2.2.2.2.2.2.1.1 (hR.P hΓ) 0 0 rfl rfl g1 hd ?_
  rw [g2, Int.toNat_of_nonneg h0]
  exact k w p l e RM s m args below meth c Q C fin H locs cells slots ls hR hS h1 h2 hl
theorem PW.zald {a n : Nat} {i : Int} (hd : decode μ.2.1 pc = .ok (.baload, 1)) (hΓ : Γ[a]? = some (.inr (1, n))) (h0 : 0 ≤ i) (hi : i < n) (hn : n ≤ 2147483647) (k : PW sc μ d kc ks post (pc + 1) L (.inl (I a i) :: st) Γ I R) : PW sc μ d kc ks post pc L (.inl i :: .inr (some a) :: st) Γ I R := by
  intro w p l e RM s m args below meth c Q C fin H locs cells slots ls hR hS h1 h2 hl
  obtain ⟨g1, g2⟩ := pw_idx h0 hi hn
  refine va_zald C.1 C.2.1 C.2.2.2.2.2.2.2.1.1 (hR.P hΓ) 0 1 rfl rfl g1 hd ?_
  rw [g2, Int.toNat_of_nonneg h0]
  exact k w p l e RM s m args below meth c Q C fin H locs cells slots ls hR hS h1 h2 hl
theorem PW.aald {a n q : Nat} {i : Int} (hd : decode μ.2.1 pc = .ok (.aaload, 1)) (hΓ : Γ[a]? = some (.inr (2, n))) (h0 : 0 ≤ i) (hi : i < n) (hn : n ≤ 2147483647) (hq : R a i = some q) (k : PW sc μ d kc ks post (pc + 1) L (.inr (some q) :: st) Γ I R) : PW sc μ d kc ks post pc L (.inl i :: .inr (some a) :: st) Γ I R := by
  intro w p l e RM s m args below meth c Q C fin H locs cells slots ls hR hS h1 h2 hl
  obtain ⟨g1, g2⟩ := pw_idx h0 hi hn
  refine va_aldq C.1 C.2.1 C.2.2.2.2.2.2.2.1.1 (hR.P hΓ) 0 2 rfl rfl g1 hd ?_
  rw [g2, Int.toNat_of_nonneg h0, hq]
  exact k w p l e RM s m args below meth c Q C fin H locs cells slots ls hR hS h1 h2 hl
theorem PW.alen {a n kd : Nat} (hd : decode μ.2.1 pc = .ok (.arraylength, 1)) (hΓ : Γ[a]? = some (.inr (kd, n))) (k : PW sc μ d kc ks post (pc + 1) L (.inl (n : Int) :: st) Γ I R) : PW sc μ d kc ks post pc L (.inr (some a) :: st) Γ I R := by
  intro w p l e RM s m args below meth c Q C fin H locs cells slots ls hR hS h1 h2 hl
  have K := k w p l e RM s m args below meth c Q C fin H locs cells slots ls hR hS h1 h2 hl
  match kd, hΓ with
  | 0, hΓ => exact va_alen C.1 C.2.1 C.2.2.2.2.2.2.2.1.1 (hR.P hΓ) 0 0 rfl rfl (by rfl) hd K
  | 1, hΓ => exact va_alen C.1 C.2.1 C.2.2.2.2.2.2.2.1.1 (hR.P hΓ) 0 1 rfl rfl (by rfl) hd K
  | _ + 2, hΓ => exact va_alen C.1 C.2.1 C.2.2.2.2.2.2.2.1.1 (hR.P hΓ) 0 2 rfl rfl (by rfl) hd K
theorem pw_up_arr {a : Nat} {i x : Int} (h0 : 0 ≤ i) : updV (fun j => .int (Int32.ofInt (I a (j : Int)))) i.toNat (.int (Int32.ofInt x)) = fun j : Nat => Value.int (Int32.ofInt (pw_up I a i x a (j : Int))) := by
  funext j
  unfold updV pw_up
  by_cases h : j = i.toNat
  · rw [if_pos h, if_pos ⟨rfl, by omega⟩]
  · rw [if_neg h, if_neg (fun q => h (by omega))]
theorem PW.iast {a n : Nat} {i x : Int} (hd : decode μ.2.1 pc = .ok (.iastore, 1)) (hΓ : Γ[a]? = some (.inr (0, n))) (h0 : 0 ≤ i) (hi : i < n) (hn : n ≤ 2147483647) (k : PW sc μ d kc ks post (pc + 1) L st Γ (pw_up I a i x) R) : PW sc μ d kc ks post pc L (.inl x :: .inl i :: .inr (some a) :: st) Γ I R := by
  intro w p l e RM s m args below meth c Q C fin H locs cells slots ls hR hS h1 h2 hl
  obtain ⟨g1, g2⟩ := pw_idx h0 hi hn
  have hat := hR.2.2 a _ hΓ
  rw [← hR.ad hΓ] at hat
  refine W.iast C.1 C.2.1 hat ((C.2.2.2.2.2.2.2.1.1.2 0 _ rfl).1 n _) (fun q => by cases q) (by show ¬ (_ ∨ (arrV _ _ _).slots.size ≤ _); rw [arrV_size]; exact g1) rfl rfl hd fun H1 e1 z oq => ?_
  refine k w p l e RM s m args below meth c Q C fin H1 _ cells slots ls (hR.store hΓ ?_ z oq pw_up_ne (fun _ _ => rfl)) (hS.put z oq (pw_inA hR hΓ)) h1 h2 hl
  show H1[pw_ad w a]? = some (vp_cell _ (n, .inl _))
  rw [e1, g2, vp_cell_i, vp_cell_i, arrV_store, pw_up_arr h0]
theorem PW.zast {a n : Nat} {i x : Int} (hd : decode μ.2.1 pc = .ok (.bastore, 1)) (hΓ : Γ[a]? = some (.inr (1, n))) (h0 : 0 ≤ i) (hi : i < n) (hn : n ≤ 2147483647) (hx : x = 0 ∨ x = 1) (k : PW sc μ d kc ks post (pc + 1) L st Γ (pw_up I a i x) R) : PW sc μ d kc ks post pc L (.inl x :: .inl i :: .inr (some a) :: st) Γ I R := by
  intro w p l e RM s m args below meth c Q C fin H locs cells slots ls hR hS h1 h2 hl
  obtain ⟨g1, g2⟩ := pw_idx h0 hi hn
  have hat := hR.2.2 a _ hΓ
  rw [← hR.ad hΓ] at hat
  refine W.zast C.1 C.2.1 hat ((C.2.2.2.2.2.2.2.1.1.2 1 _ rfl).1 n _) (fun q => by cases q) (by show ¬ (_ ∨ (arrV _ _ _).slots.size ≤ _); rw [arrV_size]; exact g1) rfl rfl hd fun H1 e1 z oq => ?_
  refine k w p l e RM s m args below meth c Q C fin H1 _ cells slots ls (hR.store hΓ ?_ z oq pw_up_ne (fun _ _ => rfl)) (hS.put z oq (pw_inA hR hΓ)) h1 h2 hl
  show H1[pw_ad w a]? = some (vp_cell _ (n, .inl _))
  rw [e1, g2, (pw_fit_bool (t := .boolean) rfl hx).1, vp_cell_i, vp_cell_i, arrV_store, pw_up_arr h0]
theorem PW.aast {a n v : Nat} {i : Int} (hd : decode μ.2.1 pc = .ok (.aastore, 1)) (hΓ : Γ[a]? = some (.inr (2, n))) (hv : Γ[v]? = some (.inl 7)) (h0 : 0 ≤ i) (hi : i < n) (hn : n ≤ 2147483647) (k : PW sc μ d kc ks post (pc + 1) L st Γ I (pw_upr R a i (some v))) : PW sc μ d kc ks post pc L (.inr (some v) :: .inl i :: .inr (some a) :: st) Γ I R := by
  intro w p l e RM s m args below meth c Q C fin H locs cells slots ls hR hS h1 h2 hl
  obtain ⟨g1, g2⟩ := pw_idx h0 hi hn
  have hat := hR.2.2 a _ hΓ
  rw [← hR.ad hΓ] at hat
  have hK := C.2.2.2.2.2.2.2.1.1
  have hav := hR.2.2 v _ hv
  rw [← hR.ad hv] at hav
  obtain ⟨r', hr', cellV, f1, f2, f3, -⟩ := hav
  have hcls := (hK.1 7 (RX7, TX7, 3) rfl).2
  obtain ⟨kA, comp, k1, k2, k3, -⟩ := (hK.2 2 _ rfl).2
  have hcomp : comp = w.2.2.2.1.1 7 := Option.some.inj (k3.symm.trans hcls.1)
  subst hcomp
  obtain ⟨kC, hkC, -⟩ := hcls.2
  refine W.aast C.1 C.2.1 hat (fun q h => by cases h) (fun h => by cases h) k1 k2 rfl hkC ⟨fun q => g1 (Or.inl q), by show _ < (arrV _ _ _).slots.size; rw [arrV_size]; exact Nat.not_le.mp fun q => g1 (Or.inr q)⟩ f1 (fun q h => by rw [f3] at h; cases h) (by rw [f2]; exact hkC) (by rw [f2]; exact va_assign hcls) rfl rfl hd fun H1 e1 z oq => ?_
  refine k w p l e RM s m args below meth c Q C fin H1 _ cells slots ls (hR.store hΓ ?_ z oq (fun _ _ => rfl) pw_upr_ne) (hS.put z oq (pw_inA hR hΓ)) h1 h2 hl
  show H1[pw_ad w a]? = some (vp_cell _ (n, .inr (.inr (.inr (.inr _)))))
  rw [e1, g2, vp_cell_q, vp_cell_q, arrV_store]
  congr 2
  funext j
  unfold updV pw_upr
  by_cases h : j = i.toNat
  · rw [if_pos h, if_pos ⟨rfl, by omega⟩]
    rfl
  · rw [if_neg h, if_neg (fun q => h (by omega))]
end PWHEAP
