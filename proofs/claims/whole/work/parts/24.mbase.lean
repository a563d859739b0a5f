/-! THE REFERENCE: its cells, and what its tables hold -/
abbrev MW (cI cJ : ClassId) (mo mN mD mP mH mR mQ mF mO : Nat) (near : Nat → Int64) (many edges blt : Int32) (dis par hubs rnks que far frm : Nat → Int32) (vis cut put prn wrt thr : Int32) : va_W :=
  [(mo, .inr (4, [.ref mN, .int many, .int edges, .int blt, .ref mD, .ref mP, .ref mH, .ref mR, .ref mQ, .ref mF, .ref mO, .int vis, .int cut, .int put, .int prn, .int wrt, .int thr])), (mN, .inl (cJ, 48, .inr (.inl near))), (mD, .inl (cI, 4608, .inl dis)), (mP, .inl (cI, 4608, .inl par)), (mH, .inl (cI, 96, .inl hubs)), (mR, .inl (cI, 96, .inl rnks)), (mQ, .inl (cI, 48, .inl que)), (mF, .inl (cI, 48, .inl far)), (mO, .inl (cI, 48, .inl frm))]
def RepM (tb : Nat) (L P : Nat → Nat → Option Nat) (dis par : Nat → Int32) : Prop := ∀ v r, v < 48 → r < 48 → dis (2304 * tb + 48 * v + r) = eN (L v r) ∧ ∀ d, L v r = some d → par (2304 * tb + 48 * v + r) = eN (P v r)
/-- outside of one table nothing changes -/
def Fr (o w : Nat) (f g : Nat → Int32) : Prop := ∀ i, (i < o ∨ o + w ≤ i) → g i = f i
theorem Fr.rf {o w : Nat} {f : Nat → Int32} : Fr o w f f := fun _ _ => rfl
theorem Fr.tr {o w : Nat} {f g h : Nat → Int32} (a : Fr o w f g) (b : Fr o w g h) : Fr o w f h := fun i hi => (b i hi).trans (a i hi)
theorem Fr.put {o w k : Nat} {f g : Nat → Int32} {x : Int32} (a : Fr o w f g) (h1 : o ≤ k) (h2 : k < o + w) : Fr o w f (upd g k x) := fun i hi => (pk_un (by omega)).trans (a i hi)
theorem RepM.put {tb : Nat} {L P : Nat → Nat → Option Nat} {dis par : Nat → Int32} (h : RepM tb L P dis par) {v r d : Nat} {p : Option Nat} (hv : v < 48) (hr : r < 48) :
    RepM tb (up2 L v r (some d)) (up2 P v r p) (upd dis (2304 * tb + 48 * v + r) (nI d)) (upd par (2304 * tb + 48 * v + r) (eN p)) := by
  intro v' r' hv' hr'
  by_cases e1 : v' = v ∧ r' = r
  · obtain ⟨rfl, rfl⟩ := e1
    rw [pk_us, pk_us]
    exact ⟨by simp [up2, eN], fun d' _ => by simp [up2]⟩
  · have hne : 2304 * tb + 48 * v' + r' ≠ 2304 * tb + 48 * v + r := fun q => e1 (by omega)
    rw [pk_un hne, pk_un hne]
    have q := h v' r' hv' hr'
    have e2 : up2 L v r (some d) v' r' = L v' r' := if_neg e1
    have e3 : up2 P v r p v' r' = P v' r' := if_neg e1
    rw [e2, e3]
    exact q
theorem RepM.fr {tb t2 : Nat} {L P : Nat → Nat → Option Nat} {dis par d2 p2 : Nat → Int32} (h : RepM tb L P dis par) (hne : tb ≠ t2) (a : Fr (2304 * t2) 2304 dis d2) (b : Fr (2304 * t2) 2304 par p2) : RepM tb L P d2 p2 := by
  intro v r hv hr
  have hi : 2304 * tb + 48 * v + r < 2304 * t2 ∨ 2304 * t2 + 2304 ≤ 2304 * tb + 48 * v + r := by omega
  rw [a _ hi, b _ hi]
  exact h v r hv hr
theorem RepM.p {tb : Nat} {L P : Nat → Nat → Option Nat} {dis par : Nat → Int32} (h : RepM tb L P dis par) {v r : Nat} (hv : v < 48) (hr : r < 48) (q : (L v r).isSome = true) : par (2304 * tb + 48 * v + r) = eN (P v r) := by
  obtain ⟨d, e⟩ := Option.isSome_iff_exists.mp q
  exact (h v r hv hr).2 d e
/-- a table emptied up to k -/
def fl (f : Nat → Int32) (a k : Nat) : Nat → Int32 := fun i => if a ≤ i ∧ i < a + k then -1 else f i
theorem fl_0 (f : Nat → Int32) (a : Nat) : fl f a 0 = f := by
  funext i; exact if_neg (by omega)
theorem fl_s (f : Nat → Int32) (a k : Nat) : upd (fl f a k) (a + k) (-1) = fl f a (k + 1) := by
  funext i
  unfold upd fl
  by_cases h : i = a + k
  · rw [if_pos h, if_pos (by omega)]
  · rw [if_neg h]
    by_cases h2 : a ≤ i ∧ i < a + k
    · rw [if_pos h2, if_pos (by omega)]
    · rw [if_neg h2, if_neg (by omega)]
theorem fl_fr (f : Nat → Int32) (a w : Nat) : Fr a w f (fl f a w) := fun i hi => if_neg (by omega)
theorem RepM.zero {tb : Nat} {P : Nat → Nat → Option Nat} {dis par : Nat → Int32} : RepM tb (fun _ _ => none) P (fl dis (2304 * tb) 2304) par := fun v r hv hr => ⟨if_pos (by omega), fun d e => by cases e⟩
/-- the estimate, a rank at a time -/
theorem es_no {L : Nat → Nat → Option Nat} {u v k : Nat} (h : ((L u k).isSome && (L v k).isSome) = false) : es L u v (k + 1) = es L u v k := by unfold es; rw [mr_no h]
theorem es_first {L : Nat → Nat → Option Nat} {u v k a b : Nat} (hu : L u k = some a) (hv : L v k = some b) (hm : mr L u v k = none) : es L u v (k + 1) = some (a + b) := by
  unfold es
  rw [mr_first (by rw [hu, hv]; rfl) hm]
  show some (lsm L u v k) = _
  unfold lsm; rw [hu, hv]; rfl
theorem es_less {L : Nat → Nat → Option Nat} {u v k a b r : Nat} (hu : L u k = some a) (hv : L v k = some b) (hm : mr L u v k = some r) (hl : a + b < lsm L u v r) : es L u v (k + 1) = some (a + b) := by
  have e : lsm L u v k = a + b := by unfold lsm; rw [hu, hv]; rfl
  unfold es
  rw [mr_less (by rw [hu, hv]; rfl) hm (by rw [e]; exact hl)]
  show some (lsm L u v k) = _
  rw [e]
theorem es_keep {L : Nat → Nat → Option Nat} {u v k a b r : Nat} (hu : L u k = some a) (hv : L v k = some b) (hm : mr L u v k = some r) (hl : lsm L u v r ≤ a + b) : es L u v (k + 1) = es L u v k := by
  have e : lsm L u v k = a + b := by unfold lsm; rw [hu, hv]; rfl
  unfold es
  rw [mr_keep (by rw [hu, hv]; rfl) hm (by rw [e]; exact hl), hm]
theorem rch_es (L : Nat → Nat → Option Nat) (h v d : Nat) : ∀ k, rch L h v d k = (match es L h v k with | none => false | some q => decide (q ≤ d))
  | 0 => rfl
  | k + 1 => by
    have ih := rch_es L h v d k
    show (rch L h v d k || (((L h k).isSome && (L v k).isSome) && decide (lsm L h v k ≤ d))) = _
    cases hc : ((L h k).isSome && (L v k).isSome) with
    | false => rw [es_no hc, ih]; simp
    | true =>
      have hc2 := Bool.and_eq_true_iff.mp hc
      obtain ⟨a, ea⟩ := Option.isSome_iff_exists.mp hc2.1
      obtain ⟨b, eb⟩ := Option.isSome_iff_exists.mp hc2.2
      have e : lsm L h v k = a + b := by unfold lsm; rw [ea, eb]; rfl
      rw [ih, e]
      cases hm : mr L h v k with
      | none =>
        rw [es_first ea eb hm]
        unfold es; rw [hm]; simp
      | some r =>
        have e0 : es L h v k = some (lsm L h v r) := by unfold es; rw [hm]; rfl
        rcases Nat.lt_or_ge (a + b) (lsm L h v r) with g | g
        · rw [es_less ea eb hm g, e0]
          by_cases q : lsm L h v r ≤ d
          · simp [q]; omega
          · simp [q]
        · rw [es_keep ea eb hm g, e0]
          by_cases q : lsm L h v r ≤ d
          · simp [q]
          · simp [q]; omega
theorem rch_none {L : Nat → Nat → Option Nat} {h v d k : Nat} (e : es L h v k = none) : rch L h v d k = false := by rw [rch_es, e]
theorem rch_some {L : Nat → Nat → Option Nat} {h v d k q : Nat} (e : es L h v k = some q) : rch L h v d k = decide (q ≤ d) := by rw [rch_es, e]
theorem es_lt {L : Nat → Nat → Option Nat} (hB : LBd L (2 ^ 30)) {u v k q : Nat} (e : es L u v k = some q) : q < 2 ^ 31 := by
  unfold es at e
  cases hm : mr L u v k with
  | none => rw [hm] at e; cases e
  | some r =>
    rw [hm] at e
    have : lsm L u v r = q := Option.some.inj e
    rw [← this]; exact lsm_lt hB u v r
/-- ranks and hubs in the reference's rows -/
def RKM (tb : Nat) (dg : Nat → Nat) (n k : Nat) (hubs rnks : Nat → Int32) : Prop := ∀ v, v < k → rnks (48 * tb + v) = nI (ahd dg n v) ∧ hubs (48 * tb + ahd dg n v) = nI v
theorem RKM.put {tb : Nat} {dg : Nat → Nat} {n k : Nat} {hubs rnks : Nat → Int32} (h : RKM tb dg n k hubs rnks) (hk : k < n) : RKM tb dg n (k + 1) (upd hubs (48 * tb + ahd dg n k) (nI k)) (upd rnks (48 * tb + k) (nI (ahd dg n k))) := by
  intro v hv
  by_cases e : v = k
  · subst e; exact ⟨pk_us, pk_us⟩
  · have hne : ahd dg n v ≠ ahd dg n k := fun q => e (ahd_inj (by omega) hk q)
    rw [pk_un (by omega), pk_un (by omega)]
    exact h v (by omega)
theorem RKM.hub {tb : Nat} {dg : Nat → Nat} {n : Nat} {hubs rnks : Nat → Int32} (h : RKM tb dg n n hubs rnks) {k : Nat} (hk : k < n) : hubs (48 * tb + k) = nI (hbf dg n k) := by
  have h1 := hbf_ok (dg := dg) hk
  have h2 := (h _ h1.1).2
  rw [h1.2] at h2
  exact h2
theorem bef_bit {dg : Nat → Nat} {v w : Nat} : bef dg (dg v + 1) v w = true ↔ (dg v < dg w ∨ (dg w = dg v ∧ w < v)) := by
  rw [bef_iff]; omega
