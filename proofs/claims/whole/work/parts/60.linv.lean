/-! what holds at the head of the law's loop -/
/-- the addresses, fixed over the run: 0 xo 1 g 2 gA 3 lb 4-8 its rows 9 se 10-12 its rows 13 tl 14-18 19 ts 20-22 23 mo 24-31 its rows 32 out -/
abbrev LWd (cI cJ : ClassId) (fx : Nat → Nat) (n ec pn wn : Nat) (bt : Bool) (ns : Nat → Int64) (rk vb : Nat → Int32) (rc : Int32) (hs : Nat → Int64) (D Pp qv qd qp : Nat → Int32) (ql : Int32) (qs : Int64) (vi : Int32)
    (trk tvb : Nat → Int32) (trc : Int32) (ths : Nat → Int64) (tD tP tqv tqd tqp : Nat → Int32) (tql : Int32) (tqs : Int64) (tvi tpr twr : Int32) (dis par hubs rnks que far frm : Nat → Int32) (vis cut put : Nat) (th : Int32) (of : Nat → Int64) : va_W :=
  XW (fx 0) (fx 1) (fx 3) (fx 9) (fx 13) (fx 19) (bI bt) ++ (SW cI (fx 1) (fx 3) (fx 9) (fx 10) (fx 11) (fx 12) qv qd qp ql qs vi (nI pn) (nI wn) ++ (GW cJ (fx 1) (fx 2) (nI n) (nI ec) ns ++ (LW cI cJ (fx 3) (fx 4) (fx 5) (fx 6) (fx 7) (fx 8) rk vb rc hs D Pp ++
    (SW cI (fx 1) (fx 13) (fx 19) (fx 20) (fx 21) (fx 22) tqv tqd tqp tql tqs tvi tpr twr ++ (LW cI cJ (fx 13) (fx 14) (fx 15) (fx 16) (fx 17) (fx 18) trk tvb trc ths tD tP ++
    (MW cI cJ (fx 23) (fx 24) (fx 25) (fx 26) (fx 27) (fx 28) (fx 29) (fx 30) (fx 31) ns (nI n) (nI ec) (bI bt) dis par hubs rnks que far frm (nI vis) (nI cut) (nI put) (nI pn) (nI wn) th ++ OW cJ (fx 32) of))))))
/-- built labels, in both -/
def LB9 (turn n : Nat) (rk vb : Nat → Int32) (rc : Int32) (hs : Nat → Int64) (D Pp dis par hubs rnks : Nat → Int32) : Prop :=
  ∃ (L P : Nat → Nat → Option Nat) (hb : Nat → Nat), IL n hb n L P ∧ RepL L P hs D Pp ∧ RepM 0 L P dis par ∧ LBd L (48 + 4704 * turn) ∧ (∀ k, k < n → hb k < n ∧ vb k = nI (hb k) ∧ hubs k = nI (hb k)) ∧ rc = nI n ∧ ∀ v, v < n → rk v = rnks v
def LI (cI cJ : ClassId) (fx : Nat → Nat) (turn : Nat) (Wd : va_W) : Prop :=
  ∃ (n ec pn wn : Nat) (bt : Bool) (ns : Nat → Int64) (rk vb : Nat → Int32) (rc : Int32) (hs : Nat → Int64) (D Pp qv qd qp : Nat → Int32) (ql : Int32) (qs : Int64) (vi : Int32)
    (trk tvb : Nat → Int32) (trc : Int32) (ths : Nat → Int64) (tD tP tqv tqd tqp : Nat → Int32) (tql : Int32) (tqs : Int64) (tvi tpr twr : Int32) (dis par hubs rnks que far frm : Nat → Int32) (vis cut put : Nat) (th : Int32) (of : Nat → Int64),
    Wd = LWd cI cJ fx n ec pn wn bt ns rk vb rc hs D Pp qv qd qp ql qs vi trk tvb trc ths tD tP tqv tqd tqp tql tqs tvi tpr twr dis par hubs rnks que far frm vis cut put th of ∧
    n ≤ 48 ∧ GI n ns ∧ (bt = true → LB9 turn n rk vb rc hs D Pp dis par hubs rnks)
theorem LB9.mono {turn t2 n : Nat} {rk vb : Nat → Int32} {rc : Int32} {hs : Nat → Int64} {D Pp dis par hubs rnks : Nat → Int32} (h : LB9 turn n rk vb rc hs D Pp dis par hubs rnks) (ht : turn ≤ t2) : LB9 t2 n rk vb rc hs D Pp dis par hubs rnks := by
  obtain ⟨L, P, hb, h1, h2, h3, h4, h5⟩ := h
  exact ⟨L, P, hb, h1, h2, h3, h4.mono (by omega), h5⟩
