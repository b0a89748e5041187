def xshl (x y : Int32) : Int32 := x <<< (y &&& 31)
def xshr (x y : Int32) : Int32 := x >>> (y &&& 31)
def xushr (x y : Int32) : Int32 := (x.toUInt32 >>> (y.toUInt32 &&& Int32.toUInt32 31)).toInt32
def xlshl (x : Int64) (y : Int32) : Int64 := x <<< (y.toInt64 &&& 63)
def xlshr (x : Int64) (y : Int32) : Int64 := x >>> (y.toInt64 &&& 63)
def xlushr (x : Int64) (y : Int32) : Int64 := (x.toUInt64 >>> (y.toInt64.toUInt64 &&& Int64.toUInt64 63)).toInt64
def xrem (x y : Int32) : Int32 := x - x / y * y
def xlrem (x y : Int64) : Int64 := x - x / y * y
def xmk (R : xRec) (pc : Nat) (lv : xLv) : xLv := match xlk (xri R) pc with
  | none => lv
  | some e => xmask e.2.2.2.2 lv
section XTR
variable {Ms : List xRec} {Ly : xLy} {R : xRec} {τ : Type} {a b : xT} {t t1 t2 : Option τ} {K : τ → xT}
theorem xTr.mk {pc : Nat} {lv lv1 : xLv} {st : List Value} {s : xS} (h : xmk R pc lv = lv1) (h1 : xmk R pc lv1 = lv1) (ht : xTr Ms Ly R (.inl (pc, lv1, st, s)) t K) : xTr Ms Ly R (.inl (pc, lv, st, s)) t K := by
  refine xTr.go ?_ ht
  intro q ⟨n, hn⟩
  refine ⟨n, ?_⟩
  have hn' : xexec Ms Ly n R (pc, lv1, st, s) = some q := hn
  show xexec Ms Ly n R (pc, lv, st, s) = some q
  cases n with
  | zero => cases hn'
  | succ n =>
    unfold xexec at hn' ⊢
    unfold xmk at h h1
    cases hlk : xlk (xri R) pc with
    | none => rw [hlk] at hn'; cases hn'
    | some e =>
      rw [hlk] at hn' h h1
      simp only at hn' h h1 ⊢
      rw [h1] at hn'
      rw [h]
      exact hn'
theorem xTr.cs {c : Prop} {d : Decidable c} (h1 : c → xTr Ms Ly R a t1 K) (h2 : ¬ c → xTr Ms Ly R a t2 K) : xTr Ms Ly R a (@ite _ c d t1 t2) K := by
  by_cases hc : c
  · rw [if_pos hc]
    exact h1 hc
  · rw [if_neg hc]
    exact h2 hc
theorem xTr.on {f g : xF} (h : xone Ly R f = some (.inl g)) (ht : xTr Ms Ly R (.inl g) t K) : xTr Ms Ly R (.inl f) t K := xTr.go (xone_go h) ht
theorem xTr.sw {f : xF} {n m : Nat} {lv : xLv} {st : List Value} {s : xS} (h : xone Ly R f = some (.inl (n, lv, st, s))) (e : n = m) (ht : xTr Ms Ly R (.inl (m, lv, st, s)) t K) : xTr Ms Ly R (.inl f) t K := by
  subst e
  exact xTr.go (xone_go h) ht
theorem xTr.rtz {f : xF} {v : Int32} {y : τ} {d : Decidable (v = 0 ∨ v = 1)} {d2 : Decidable (xrz R = true ∧ ¬ v = 0 ∧ ¬ v = 1)} (h : (match xlk (xri R) f.1 with | Option.none => false | some e => xisr e.1) = true) (h1 : xone Ly R f = @ite _ (xrz R = true ∧ ¬ v = 0 ∧ ¬ v = 1) d2 Option.none (some (.inr (.inr (some (.int v)))))) (hy : K y = .inr (some (.int v), f.2.2.2)) : xTr Ms Ly R (.inl f) (@ite _ (v = 0 ∨ v = 1) d (some y) Option.none) K := by
  by_cases hv : v = 0 ∨ v = 1
  · rw [if_pos hv]
    have hn : ¬ (xrz R = true ∧ ¬ v = 0 ∧ ¬ v = 1) := fun z => hv.elim z.2.1 z.2.2
    rw [if_neg hn] at h1
    exact xTr.ret h h1 hy
  · rw [if_neg hv]
    exact xTr.none
section CALLS
variable {f : xF} {ci : Nat} {as rest : List Value} {R' : xRec} {lv : xLv}
theorem xTr.callr {y : Nat} (hY : xTr Ms Ly R' (.inl (0, lv_args 0 as, [], f.2.2.2)) (some y) (fun y => .inr (some (.ref y), f.2.2.2))) (hc : (match xlk (xri R) f.1 with | Option.none => false | some e => xisc e.1) = true) (h1 : xone Ly R f = some (.inr (.inl (ci, as, rest)))) (hm : Ms[ci]? = some R') (hr : (xrecv Ly R' as && Nat.ble (lg_sl as).length (xrL R')) = true) (hlv : (match xlk (xri R) f.1 with | Option.none => f.2.1 | some e => xmask e.2.2.2.2 f.2.1) = lv)
    (hk : xTr Ms Ly R (.inl (f.1 + 3, lv, .ref y :: rest, f.2.2.2)) t K) : xTr Ms Ly R (.inl f) t K :=
  xTr.go (xcall_go hc h1 hm hr hlv (hY.end rfl rfl)) hk
theorem xTr.callip {Y : Option Int32} {k : Int32 → Option τ} (hY : xTr Ms Ly R' (.inl (0, lv_args 0 as, [], f.2.2.2)) Y (fun y => .inr (some (.int y), f.2.2.2))) (hc : (match xlk (xri R) f.1 with | Option.none => false | some e => xisc e.1) = true) (h1 : xone Ly R f = some (.inr (.inl (ci, as, rest)))) (hm : Ms[ci]? = some R') (hr : (xrecv Ly R' as && Nat.ble (lg_sl as).length (xrL R')) = true) (hlv : (match xlk (xri R) f.1 with | Option.none => f.2.1 | some e => xmask e.2.2.2.2 f.2.1) = lv)
    (hk : ∀ v : Int32, xTr Ms Ly R (.inl (f.1 + 3, lv, .int v :: rest, f.2.2.2)) (k v) K) : xTr Ms Ly R (.inl f) (Y.bind k) K := fun z e => by
  cases hu : Y with
  | none => rw [hu] at e; cases e
  | some y =>
    rw [hu] at e
    exact (xcall_go hc h1 hm hr hlv (hY.end hu rfl)).tr (hk y z e)
theorem xTr.calllp {Y : Option Int64} {k : Int64 → Option τ} (hY : xTr Ms Ly R' (.inl (0, lv_args 0 as, [], f.2.2.2)) Y (fun y => .inr (some (.long y), f.2.2.2))) (hc : (match xlk (xri R) f.1 with | Option.none => false | some e => xisc e.1) = true) (h1 : xone Ly R f = some (.inr (.inl (ci, as, rest)))) (hm : Ms[ci]? = some R') (hr : (xrecv Ly R' as && Nat.ble (lg_sl as).length (xrL R')) = true) (hlv : (match xlk (xri R) f.1 with | Option.none => f.2.1 | some e => xmask e.2.2.2.2 f.2.1) = lv)
    (hk : ∀ v : Int64, xTr Ms Ly R (.inl (f.1 + 3, lv, .long v :: rest, f.2.2.2)) (k v) K) : xTr Ms Ly R (.inl f) (Y.bind k) K := fun z e => by
  cases hu : Y with
  | none => rw [hu] at e; cases e
  | some y =>
    rw [hu] at e
    exact (xcall_go hc h1 hm hr hlv (hY.end hu rfl)).tr (hk y z e)
end CALLS
end XTR
