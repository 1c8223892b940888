section PWCORE
/-! THE PURE WORLD: cells by place (0, 1, ..), ints as Int, references as places; PW: the machine at a pc, told in pure words; PC: a method's contract in pure words -/
abbrev PTy : Type := Nat ⊕ (Nat × Nat)
abbrev PV : Type := Int ⊕ Option Nat
abbrev PIm : Type := Nat → Int → Int
abbrev PRm : Type := Nat → Int → Option Nat
abbrev PMI : Type := MethodName × ByteArray × Nat × Option FieldType
abbrev PWd : Type := Nat × Nat × Nat × va_G × ClassId × ClassId × ClassId
abbrev PSc : Type := Nat × (Nat → Int32)
abbrev PPost : Type := Option PV → List PTy → PIm → PRm → Prop
def pw_gw : List Cond := lw_tbl.filter goodWord
def pw_isNest : Cond → Bool
  | .methodLinkNest _ _ _ _ => true
  | _ => false
def pw_nest : List Cond := lw_tbl.filter pw_isNest
def pw_ad (w : PWd) (p : Nat) : Nat := if p = 100000 then w.2.1 else if p = 100001 then w.2.2.1 else w.1 + p
def pw_tv (w : PWd) : PV → Value
  | .inl z => .int (Int32.ofInt z)
  | .inr none => .null
  | .inr (some p) => .ref (pw_ad w p)
def pw_isref : FieldType → Bool
  | .object _ => true
  | .array _ => true
  | _ => false
def pw_ft : Nat → Nat → FieldType := fun ci => match ci with
  | 0 => tyX0
  | 1 => tyX1
  | 2 => tyX2
  | 3 => tyX3
  | 4 => tyX4
  | 5 => tyX5
  | 6 => tyX6
  | 7 => tyX7
  | 8 => tyX8
  | 9 => tyX9
  | 10 => tyX10
  | _ => tyX11
def pw_fn : Nat → Nat := fun ci => match ci with
  | 0 => 4
  | 1 => 4
  | 2 => 6
  | 3 => 2
  | 4 => 3
  | 5 => 2
  | 6 => 3
  | 7 => 3
  | 8 => 7
  | 9 => 6
  | 10 => 13
  | _ => 41
def pw_fv (w : PWd) (ci : Nat) (i : Int → Int) (r : Int → Option Nat) (k : Nat) : Value := if pw_isref (pw_ft ci k) = true then va_rf ((r (k : Int)).map (pw_ad w)) else .int (Int32.ofInt (i (k : Int)))
def pw_fs (w : PWd) (ci : Nat) (i : Int → Int) (r : Int → Option Nat) : List Value := (List.range (pw_fn ci)).map (pw_fv w ci i r)
def pw_ce (w : PWd) (T : PTy) (i : Int → Int) (r : Int → Option Nat) : va_E := match T with
  | .inl ci => .inr (ci, pw_fs w ci i r)
  | .inr (0, n) => .inl (w.2.2.2.2.1, n, .inl (fun j => Int32.ofInt (i (j : Int))))
  | .inr (1, n) => .inl (w.2.2.2.2.2.1, n, .inl (fun j => Int32.ofInt (i (j : Int))))
  | .inr (_ + 2, n) => .inl (w.2.2.2.2.2.2, n, .inr (.inr (.inr (.inr (fun j => (r (j : Int)).map (pw_ad w))))))
def pw_Rep (w : PWd) (Γ : List PTy) (I : PIm) (R : PRm) (H : Heap) : Prop := H.size = w.1 + Γ.length ∧ Γ.length ≤ 100000 ∧ ∀ (p : Nat) (T : PTy), Γ[p]? = some T → va_at w.2.2.2.1 vwCl (w.1 + p, pw_ce w T (I p) (R p)) H
def pw_A (w : PWd) : Nat → Prop := fun q => w.1 ≤ q
def pw_tys (w : PWd) : List (ClassId × FieldType) := [(w.2.2.2.2.1, .int), (w.2.2.2.2.2.1, .boolean), (w.2.2.2.2.2.2, .object "FlushedPipes$Setting")]
def pw_fw (j : Int) : Int := if j = 3 then 4 else if j = 4 then 3 else j
def pw_WK (w : PWd) (U : State) : Prop := va_K w.2.2.2.1 vwCl (pw_tys w) U ∧ (∀ c ∈ pw_nest, va_Nw c U) ∧ va_AO "FlushedPipes$Setting" U
def pw_RO (w : PWd) (sc : PSc) (U : State) (H : Heap) : Prop := va_X w.2.1 sc.1 sc.2 U H ∧ w.2.1 < w.1 ∧ va_Z "FlushedPipes" "FORWARDS_BY_BITS" "[I" (.ref w.2.2.1) (pw_A w) U H ∧ va_T .int w.2.2.1 8 (fun j => .int (Int32.ofInt (pw_fw (j : Int)))) (pw_A w) U H ∧ w.1 ≤ H.size
def pw_Cx (sc : PSc) (μ : PMI) (d : Nat) (w : PWd) (p : Program) (RM : Room) (s : State) (m : MethodId) (args : Array Value) (meth : Method) (c : Code) : Prop :=
  p.tables.exec = Jvm.exec ∧ c.code = μ.2.1 ∧ c.maxLocals = μ.2.2.1 ∧ s.vm.findClass μ.1.cls = some m.cls ∧ (∀ x ∈ pw_gw, x.before args s = true) ∧ meth.name = μ.1.name ∧ (d + 1 ≤ RM.frames ∧ 40 * (d + 1) ≤ RM.locals) ∧ pw_WK w s ∧ pw_RO w sc s s.heap
def pw_L (w : PWd) (ls : Array Slot) (n : Nat) (L : List (Option PV)) : Prop := L.length = n ∧ ls.size = n ∧ lv_wf ls ∧ ∀ (j : Nat) (u : PV), L[j]? = some (some u) → ls[j]? = some (.val (pw_tv w u))
def pw_ret (μ : PMI) (pc : Nat) (v : Option PV) : Prop := match v with
  | none => decode μ.2.1 pc = .ok (.return_, 1) ∧ μ.2.2.2 = none
  | some (.inl z) => decode μ.2.1 pc = .ok (.ireturn, 1) ∧ (μ.2.2.2 = some .int ∨ (μ.2.2.2 = some .boolean ∧ (z = 0 ∨ z = 1)))
  | some (.inr _) => False
def PW (sc : PSc) (μ : PMI) (d kc ks : Nat) (post : PPost) (pc : Nat) (L : List (Option PV)) (st : List PV) (Γ : List PTy) (I : PIm) (R : PRm) : Prop :=
  ∀ (w : PWd) (p : Program) (l : Launch) (e : Env) (RM : Room) (s : State) (m : MethodId) (args : Array Value) (below : List Frame) (meth : Method) (c : Code) (Q : State → Prop),
    pw_Cx sc μ d w p RM s m args meth c →
    (∀ (v : Option PV) (Γ' : List PTy) (I' : PIm) (R' : PRm) (H' : Heap) (locs' : List Loc) (cells' slots' : Nat) (pc' : Nat) (ls' : Array Slot), post v Γ' I' R' → pw_Rep w Γ' I' R' H' → va_S (pw_A w) s.heap H' locs' → cells' ≤ RM.cells → slots' ≤ RM.slots → pw_ret μ pc' v →
      W p l e RM s m args below meth c H' locs' cells' slots' Q (F0 m pc' ls' (v.toList.map (pw_tv w)))) →
    ∀ (H : Heap) (locs : List Loc) (cells slots : Nat) (ls : Array Slot), pw_Rep w Γ I R H → va_S (pw_A w) s.heap H locs → cells + kc ≤ RM.cells → slots + ks ≤ RM.slots → pw_L w ls μ.2.2.1 L →
      W p l e RM s m args below meth c H locs cells slots Q (F0 m pc ls (st.map (pw_tv w)))
def pw_rm (d kc ks : Nat) : Room := { frames := d + 1, cells := kc, slots := ks, locals := 40 * (d + 1) }
def pw_ws (μ : PMI) : List Cond := Cond.code μ.1 μ.2.1 μ.2.2.1 μ.2.2.2 :: pw_gw
def pw_pre (sc : PSc) (w : PWd) (av : List PV) (Γ : List PTy) (I : PIm) (R : PRm) : Array Value → State → Prop := va_Pc (av.map (pw_tv w)) (fun U => pw_WK w U ∧ pw_RO w sc U U.heap ∧ pw_Rep w Γ I R U.heap)
def pw_post (w : PWd) (post : PPost) : Array Value → State → Outcome → State → Prop := fun _ st o t => (∃ (v : Option PV) (Γ' : List PTy) (I' : PIm) (R' : PRm), o = .returned (v.map (pw_tv w)) ∧ post v Γ' I' R' ∧ pw_Rep w Γ' I' R' t.heap) ∧ va_F (pw_A w) st t
def PC (sc : PSc) (μ : PMI) (d kc ks : Nat) (av : List PV) (Γ : List PTy) (I : PIm) (R : PRm) (post : PPost) : Prop :=
  ∀ (w : PWd) (l : Launch), Met l μ.1 (pw_ws μ) (pw_rm d kc ks) (pw_pre sc w av Γ I R) (pw_post w post) kc ks (pw_A w)
theorem pw_tv_cat (w : PWd) (v : PV) : (pw_tv w v).category = 1 := by
  rcases v with z | (_ | p) <;> rfl
theorem pw_ad_lt {w : PWd} {p : Nat} (h : p < 100000) : pw_ad w p = w.1 + p := by
  unfold pw_ad
  rw [if_neg (by omega), if_neg (by omega)]
theorem pw_Rep.ad {w : PWd} {Γ : List PTy} {I : PIm} {R : PRm} {H : Heap} (h : pw_Rep w Γ I R H) {p : Nat} {T : PTy} (hp : Γ[p]? = some T) : pw_ad w p = w.1 + p :=
  pw_ad_lt (Nat.lt_of_lt_of_le (List.getElem?_eq_some_iff.mp hp).1 h.2.1)
theorem pw_one {D : va_G} {cl : List vw_C} {q : Nat × va_E} {H : Heap} (h : va_at D cl q H) : va_P D cl [q] H := by
  intro k x hk
  match k, hk with
  | 0, hk => cases hk; exact h
  | k + 1, hk => simp at hk
theorem pw_Rep.P {w : PWd} {Γ : List PTy} {I : PIm} {R : PRm} {H : Heap} (h : pw_Rep w Γ I R H) {p : Nat} {T : PTy} (hp : Γ[p]? = some T) : va_P w.2.2.2.1 vwCl [(pw_ad w p, pw_ce w T (I p) (R p))] H := by
  rw [h.ad hp]
  exact pw_one (h.2.2 p T hp)
theorem pw_Rep.store {w : PWd} {Γ : List PTy} {I I' : PIm} {R R' : PRm} {H H' : Heap} {p : Nat} {T : PTy} (h : pw_Rep w Γ I R H) (hp : Γ[p]? = some T) (he : va_at w.2.2.2.1 vwCl (pw_ad w p, pw_ce w T (I' p) (R' p)) H') (z : H'.size = H.size) (oq : ∀ q, q ≠ pw_ad w p → H'[q]? = H[q]?) (hI : ∀ q, q ≠ p → I' q = I q) (hR : ∀ q, q ≠ p → R' q = R q) : pw_Rep w Γ I' R' H' := by
  have ea := h.ad hp
  refine ⟨by rw [z]; exact h.1, h.2.1, fun q U hq => ?_⟩
  by_cases hqp : q = p
  · subst hqp
    rw [hq] at hp
    cases hp
    rw [← ea]
    exact he
  · rw [hI q hqp, hR q hqp]
    exact (h.2.2 q U hq).kept (oq _ (by rw [ea]; show w.1 + q ≠ w.1 + p; omega))
theorem pw_S0 {w : PWd} {sc : PSc} {s : State} (h : pw_RO w sc s s.heap) : ∀ q, s.heap.size ≤ q → pw_A w q := fun q hq => Nat.le_trans h.2.2.2.2 hq
theorem pw_inA {w : PWd} {Γ : List PTy} {I : PIm} {R : PRm} {H : Heap} (h : pw_Rep w Γ I R H) {p : Nat} {T : PTy} (hp : Γ[p]? = some T) : pw_A w (pw_ad w p) := by
  rw [h.ad hp]
  exact Nat.le_add_right _ _
/-! locals -/
theorem pw_L.get {w : PWd} {ls : Array Slot} {n : Nat} {L : List (Option PV)} (h : pw_L w ls n L) {j : Nat} {u : PV} (hj : L[j]? = some (some u)) : ls[j]? = some (.val (pw_tv w u)) := h.2.2.2 j u hj
def pw_pairs (w : PWd) (L : List (Option PV)) : List (Nat × Value) := (List.range L.length).filterMap (fun j => match L[j]? with | some (some u) => some (j, pw_tv w u) | _ => none)
theorem pw_pairs_mem {w : PWd} {L : List (Option PV)} {q : Nat × Value} : q ∈ pw_pairs w L ↔ ∃ u : PV, L[q.1]? = some (some u) ∧ q.2 = pw_tv w u := by
  unfold pw_pairs
  constructor
  · intro h
    obtain ⟨j, hj, hq⟩ := List.mem_filterMap.mp h
    split at hq
    next u hu => cases hq; exact ⟨u, hu, rfl⟩
    next => cases hq
  · rintro ⟨u, hu, e⟩
    refine List.mem_filterMap.mpr ⟨q.1, List.mem_range.mpr (List.getElem?_eq_some_iff.mp hu).1, ?_⟩
    rw [hu]
    show some (q.1, pw_tv w u) = some q
    rw [← e]
theorem pw_L.has {w : PWd} {ls : Array Slot} {n : Nat} {L : List (Option PV)} (h : pw_L w ls n L) : lv_has ls n (pw_pairs w L) := by
  refine ⟨h.2.1, h.2.2.1, fun q hq => ?_⟩
  obtain ⟨u, hu, e⟩ := pw_pairs_mem.mp hq
  rw [e]
  exact h.2.2.2 q.1 u hu
theorem pw_L.put {w : PWd} {ls : Array Slot} {n i : Nat} {L : List (Option PV)} {v : PV} (hL : L.length = n) (h : lv_has ls n ((i, pw_tv w v) :: (pw_pairs w L).filter (fun q => !(q.1 == i) && !(q.1 + 1 == i && q.2.category == 2)))) : pw_L w ls n (L.set i (some v)) := by
  refine ⟨by rw [List.length_set]; exact hL, h.1, h.2.1, fun j u hj => ?_⟩
  by_cases e : j = i
  · subst e
    have hlt : j < L.length := by
      have := (List.getElem?_eq_some_iff.mp hj).1
      rwa [List.length_set] at this
    rw [List.getElem?_set_self hlt] at hj
    cases hj
    exact h.2.2 (j, pw_tv w v) List.mem_cons_self
  · rw [List.getElem?_set_ne (fun q => e q.symm)] at hj
    refine h.2.2 (j, pw_tv w u) (List.mem_cons_of_mem _ (List.mem_filter.mpr ⟨pw_pairs_mem.mpr ⟨u, hj, rfl⟩, ?_⟩))
    simp [e, pw_tv_cat]
theorem pw_L.weak {w : PWd} {ls : Array Slot} {n : Nat} {L L' : List (Option PV)} (h : pw_L w ls n L) (hl : L'.length = L.length) (hs : ∀ (j : Nat) (u : PV), L'[j]? = some (some u) → L[j]? = some (some u)) : pw_L w ls n L' :=
  ⟨hl.trans h.1, h.2.1, h.2.2.1, fun j u hj => h.2.2.2 j u (hs j u hj)⟩
theorem pw_args_mem (w : PWd) : ∀ (av : List PV) (k j : Nat) (u : PV), av[j]? = some u → (k + j, pw_tv w u) ∈ lv_args k (av.map (pw_tv w))
  | [], k, j, u, h => by simp at h
  | a :: av, k, 0, u, h => by
    cases h
    exact List.mem_cons_self
  | a :: av, k, j + 1, u, h => by
    have hc : ¬ (pw_tv w a).category = 2 := by rw [pw_tv_cat]; decide
    show (k + (j + 1), pw_tv w u) ∈ (k, pw_tv w a) :: lv_args (if (pw_tv w a).category = 2 then k + 2 else k + 1) (av.map (pw_tv w))
    rw [if_neg hc]
    have := pw_args_mem w av (k + 1) j u h
    rw [show k + (j + 1) = k + 1 + j by omega]
    exact List.mem_cons_of_mem _ this
theorem pw_sl_len (w : PWd) : ∀ av : List PV, (lg_sl (av.map (pw_tv w))).length = av.length
  | [] => rfl
  | a :: av => by
    have hc : ¬ (pw_tv w a).category = 2 := by rw [pw_tv_cat]; decide
    have := pw_sl_len w av
    unfold lg_sl at this ⊢
    rw [List.map_cons, List.flatMap_cons, if_neg hc, List.length_append, this]
    simp; omega
def pw_L0 (av : List PV) (n : Nat) : List (Option PV) := av.map some ++ List.replicate (n - av.length) none
theorem pw_L.entry {w : PWd} {av : List PV} {n : Nat} (h : av.length ≤ n) : pw_L w ((lg_sl (av.map (pw_tv w)) ++ List.replicate (n - (lg_sl (av.map (pw_tv w))).length) Slot.unset).toArray) n (pw_L0 av n) := by
  have h1 := lv_entry (av.map (pw_tv w)) (n := n) (by rw [pw_sl_len]; exact h)
  refine ⟨?_, h1.1, h1.2.1, fun j u hj => ?_⟩
  · unfold pw_L0
    simp; omega
  · refine h1.2.2 (j, pw_tv w u) ?_
    have := pw_args_mem w av 0 j u ?_
    · rwa [Nat.zero_add] at this
    · unfold pw_L0 at hj
      by_cases hl : j < av.length
      · rw [List.getElem?_append_left (by simpa using hl), List.getElem?_map] at hj
        cases hk : av[j]? with
        | none => rw [hk] at hj; cases hj
        | some x => rw [hk] at hj; cases hj; rfl
      · rw [List.getElem?_append_right (by simpa using Nat.not_lt.mp hl)] at hj
        have := List.mem_of_getElem? hj
        have := (List.mem_replicate.mp this).2
        cases this
end PWCORE
