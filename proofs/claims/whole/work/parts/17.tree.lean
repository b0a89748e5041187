/-! ===== runs of the abstract machine against trees of pure computation ===== -/
abbrev xQ : Type := Option Value × xS
abbrev xT : Type := xF ⊕ xQ
def xone (Ly : xLy) (R : xRec) (f : xF) : Option xO := match xlk (xri R) f.1 with
  | none => none
  | some e => xstep Ly (xrz R) f.1 e (xmask e.2.2.2.2 f.2.1) f.2.2.1 f.2.2.2
def xms (Ly : xLy) (R : xRec) : Nat → xF → Option xF
  | 0, f => some f
  | k + 1, f => match xone Ly R f with
    | some (.inl g) => xms Ly R k g
    | _ => none
def xrun (Ms : List xRec) (Ly : xLy) (R : xRec) (n : Nat) (t : xT) : Option xQ := match t with
  | .inl f => xexec Ms Ly n R f
  | .inr q => some q
def xGo (Ms : List xRec) (Ly : xLy) (R : xRec) (a b : xT) : Prop := ∀ q, (∃ n, xrun Ms Ly R n b = some q) → ∃ n, xrun Ms Ly R n a = some q
/-- the tree t says where the run from a comes to -/
def xTr (Ms : List xRec) (Ly : xLy) (R : xRec) {τ : Type} (a : xT) (t : Option τ) (K : τ → xT) : Prop := ∀ y, t = some y → xGo Ms Ly R a (K y)
section XTR
variable {Ms : List xRec} {Ly : xLy} {R : xRec} {τ : Type} {a b : xT} {t t1 t2 : Option τ} {K : τ → xT}
theorem xGo.rf : xGo Ms Ly R a a := fun _ h => h
theorem xGo.tr {c : xT} (h1 : xGo Ms Ly R a b) (h2 : xGo Ms Ly R b c) : xGo Ms Ly R a c := fun q h => h1 q (h2 q h)
/-- more steps do no harm -/
theorem xexec_mono : ∀ (n : Nat) (R : xRec) (f : xF) (q : xQ), xexec Ms Ly n R f = some q → xexec Ms Ly (n + 1) R f = some q := by
  intro n
  induction n with
  | zero => intro R f q h; cases h
  | succ n ih =>
    intro R f q h
    unfold xexec at h ⊢
    cases hlk : xlk (xri R) f.1 with
    | none => rw [hlk] at h; cases h
    | some e =>
      rw [hlk] at h
      simp only at h ⊢
      cases hst : xstep Ly (xrz R) f.1 e (xmask e.2.2.2.2 f.2.1) f.2.2.1 f.2.2.2 with
      | none => rw [hst] at h; cases h
      | some o =>
        rw [hst] at h
        rcases o with g | c | r
        · exact ih R g q h
        · simp only at h ⊢
          cases hm : Ms[c.1]? with
          | none => rw [hm] at h; cases h
          | some R' =>
            rw [hm] at h
            simp only at h ⊢
            obtain ⟨h1, h2⟩ := cond_some h
            rw [h1]
            simp only [cond_true]
            cases hx : xexec Ms Ly n R' (0, lv_args 0 c.2.1, [], f.2.2.2) with
            | none => rw [hx] at h2; cases h2
            | some q2 =>
              rw [hx] at h2
              rw [ih _ _ _ hx]
              exact ih _ _ _ h2
        · exact h
theorem xexec_le {n k : Nat} {f : xF} {q : xQ} (hk : n ≤ k) (h : xexec Ms Ly n R f = some q) : xexec Ms Ly k R f = some q := by
  induction hk with
  | refl => exact h
  | step _ ih => exact xexec_mono _ _ _ _ ih
theorem xone_go {f g : xF} (h : xone Ly R f = some (.inl g)) : xGo Ms Ly R (.inl f) (.inl g) := by
  intro q ⟨n, hn⟩
  refine ⟨n + 1, ?_⟩
  have hn' : xexec Ms Ly n R g = some q := hn
  show xexec Ms Ly (n + 1) R f = some q
  unfold xexec
  unfold xone at h
  cases hlk : xlk (xri R) f.1 with
  | none => rw [hlk] at h; cases h
  | some e =>
    rw [hlk] at h
    simp only at h ⊢
    rw [h]
    exact hn'
theorem xms_go : ∀ {k : Nat} {f g : xF}, xms Ly R k f = some g → xGo Ms Ly R (.inl f) (.inl g)
  | 0, f, g, h => by cases h; exact xGo.rf
  | k + 1, f, g, h => by
    unfold xms at h
    split at h
    · rename_i g1 h1
      exact (xone_go h1).tr (xms_go h)
    · cases h
theorem xTr.go (h : xGo Ms Ly R a b) (ht : xTr Ms Ly R b t K) : xTr Ms Ly R a t K := fun y e => h.tr (ht y e)
theorem xTr.ms (k : Nat) {f g : xF} (h : xms Ly R k f = some g) (ht : xTr Ms Ly R (.inl g) t K) : xTr Ms Ly R (.inl f) t K := xTr.go (xms_go h) ht
theorem xTr.none : xTr Ms Ly R a (none : Option τ) K := fun _ h => by cases h
theorem xTr.br {f g1 g2 : xF} {c : Prop} {d : Decidable c} (h : xone Ly R f = @ite _ c d (some (.inl g1)) (some (.inl g2))) (h1 : c → xTr Ms Ly R (.inl g1) t1 K) (h2 : ¬ c → xTr Ms Ly R (.inl g2) t2 K) : xTr Ms Ly R (.inl f) (@ite _ c d t1 t2) K := by
  by_cases hc : c
  · rw [if_pos hc] at h ⊢
    exact xTr.go (xone_go h) (h1 hc)
  · rw [if_neg hc] at h ⊢
    exact xTr.go (xone_go h) (h2 hc)
/-- the branch whose tree stands the other way round -/
theorem xTr.rb {f g1 g2 : xF} {c : Prop} {d : Decidable c} (h : xone Ly R f = @ite _ c d (some (.inl g1)) (some (.inl g2))) (k1 : xTr Ms Ly R (.inl g1) t K) (k2 : xTr Ms Ly R (.inl g2) t K) : xTr Ms Ly R (.inl f) t K := by
  by_cases hc : c
  · rw [if_pos hc] at h
    exact xTr.go (xone_go h) k1
  · rw [if_neg hc] at h
    exact xTr.go (xone_go h) k2
theorem xTr.ck {f g : xF} {c : Prop} {d : Decidable c} (h : xone Ly R f = @ite _ c d Option.none (some (.inl g))) (h1 : ¬ c → xTr Ms Ly R (.inl g) t K) : xTr Ms Ly R (.inl f) (@ite _ c d Option.none t) K := by
  by_cases hc : c
  · rw [if_pos hc]
    exact xTr.none
  · rw [if_neg hc] at h ⊢
    exact xTr.go (xone_go h) (h1 hc)
theorem xTr.leaf {y : τ} (h : a = K y) : xTr Ms Ly R a (some y) K := fun z e => by
  cases e
  rw [h]
  exact xGo.rf
theorem xTr.ret {f : xF} {r : Option Value} {y : τ} (h : (match xlk (xri R) f.1 with | Option.none => false | some e => xisr e.1) = true) (h1 : xone Ly R f = some (.inr (.inr r))) (hy : K y = .inr (r, f.2.2.2)) : xTr Ms Ly R (.inl f) (some y) K := fun z e => by
  cases e
  rw [hy]
  intro q ⟨n, hn⟩
  have e1 : (r, f.2.2.2) = q := Option.some.inj hn
  refine ⟨1, ?_⟩
  show xexec Ms Ly 1 R f = some q
  unfold xexec
  unfold xone at h1
  cases hlk : xlk (xri R) f.1 with
  | none => rw [hlk] at h1; cases h1
  | some en =>
    rw [hlk] at h1 h
    simp only at h1 h ⊢
    rw [h1]
    simp only
    rw [h, e1]
    rfl
/-- a piece that ends at one place, and what follows -/
theorem xTr.bind {σ : Type} {u : Option σ} {J : σ → xT} {k : σ → Option τ} (h : xTr Ms Ly R a u J) (hk : ∀ y, xTr Ms Ly R (J y) (k y) K) : xTr Ms Ly R a (u.bind k) K := fun z e => by
  cases hu : u with
  | none => rw [hu] at e; cases e
  | some y =>
    rw [hu] at e
    exact (h y hu).tr (hk y z e)
/-- a loop: body by body -/
def xlp {α β : Type} (f : α → Option (α ⊕ β)) : Nat → α → Option β
  | 0, _ => none
  | n + 1, a => match f a with
    | none => none
    | some (.inl a') => xlp f n a'
    | some (.inr b) => some b
def xhx {α β : Type} (hd : α → xT) (ex : β → xT) (y : α ⊕ β) : xT := match y with
  | .inl a => hd a
  | .inr b => ex b
theorem xTr.loop {α β : Type} {hd : α → xT} {ex : β → xT} {f : α → Option (α ⊕ β)} (h : ∀ a, xTr Ms Ly R (hd a) (f a) (xhx hd ex)) : ∀ (n : Nat) (a : α), xTr Ms Ly R (hd a) (xlp f n a) ex := by
  intro n
  induction n with
  | zero => intro a y e; cases e
  | succ n ih =>
    intro a y e
    unfold xlp at e
    split at e
    · cases e
    · rename_i a' ha
      exact (h a _ ha).tr (ih a' y e)
    · rename_i b hb
      cases e
      exact h a _ hb
/-- a call: the callee's run, then on -/
theorem xcall_go {f : xF} {ci : Nat} {as rest : List Value} {R' : xRec} {q : xQ} (hc : (match xlk (xri R) f.1 with | Option.none => false | some e => xisc e.1) = true) (h1 : xone Ly R f = some (.inr (.inl (ci, as, rest)))) (hm : Ms[ci]? = some R') (hr : (xrecv Ly R' as && Nat.ble (lg_sl as).length (xrL R')) = true) {lv : xLv} (hlv : (match xlk (xri R) f.1 with | Option.none => f.2.1 | some e => xmask e.2.2.2.2 f.2.1) = lv)
    (hq : ∃ n, xexec Ms Ly n R' (0, lv_args 0 as, [], f.2.2.2) = some q) : xGo Ms Ly R (.inl f) (.inl (f.1 + 3, lv, q.1.toList ++ rest, q.2)) := by
  intro z ⟨n, hn⟩
  obtain ⟨n2, hn2⟩ := hq
  have hn' : xexec Ms Ly n R (f.1 + 3, lv, q.1.toList ++ rest, q.2) = some z := hn
  refine ⟨n + n2 + 1, ?_⟩
  show xexec Ms Ly (n + n2 + 1) R f = some z
  unfold xexec
  unfold xone at h1
  cases hlk : xlk (xri R) f.1 with
  | none => rw [hlk] at h1; cases h1
  | some en =>
    rw [hlk] at h1 hc hlv
    simp only at h1 hc hlv ⊢
    rw [h1]
    simp only
    rw [hm]
    simp only
    rw [hc, Bool.true_and, hr]
    simp only [cond_true]
    rw [xexec_le (Nat.le_add_left n2 n) hn2]
    simp only
    rw [hlv]
    exact xexec_le (Nat.le_add_right n n2) hn'
theorem xTr.end {f : xF} {y : τ} {q : xQ} (h : xTr Ms Ly R (.inl f) t K) (ht : t = some y) (hy : K y = .inr q) : ∃ n, xexec Ms Ly n R f = some q := by
  have := h y ht
  rw [hy] at this
  exact this q ⟨0, rfl⟩
section CALLS
variable {f : xF} {ci : Nat} {as rest : List Value} {R' : xRec} {lv : xLv}
theorem xTr.calli {Y : Option (Int32 × xS)} {k : Int32 × xS → Option τ} (hY : xTr Ms Ly R' (.inl (0, lv_args 0 as, [], f.2.2.2)) Y (fun y => .inr (some (.int y.1), y.2))) (hc : (match xlk (xri R) f.1 with | Option.none => false | some e => xisc e.1) = true) (h1 : xone Ly R f = some (.inr (.inl (ci, as, rest)))) (hm : Ms[ci]? = some R') (hr : (xrecv Ly R' as && Nat.ble (lg_sl as).length (xrL R')) = true) (hlv : (match xlk (xri R) f.1 with | Option.none => f.2.1 | some e => xmask e.2.2.2.2 f.2.1) = lv)
    (hk : ∀ (v : Int32) (s : xS), xTr Ms Ly R (.inl (f.1 + 3, lv, .int v :: rest, s)) (k (v, s)) K) : xTr Ms Ly R (.inl f) (Y.bind k) K := fun z e => by
  cases hu : Y with
  | none => rw [hu] at e; cases e
  | some y =>
    rw [hu] at e
    exact (xcall_go hc h1 hm hr hlv (hY.end hu rfl)).tr (hk y.1 y.2 z e)
theorem xTr.calll {Y : Option (Int64 × xS)} {k : Int64 × xS → Option τ} (hY : xTr Ms Ly R' (.inl (0, lv_args 0 as, [], f.2.2.2)) Y (fun y => .inr (some (.long y.1), y.2))) (hc : (match xlk (xri R) f.1 with | Option.none => false | some e => xisc e.1) = true) (h1 : xone Ly R f = some (.inr (.inl (ci, as, rest)))) (hm : Ms[ci]? = some R') (hr : (xrecv Ly R' as && Nat.ble (lg_sl as).length (xrL R')) = true) (hlv : (match xlk (xri R) f.1 with | Option.none => f.2.1 | some e => xmask e.2.2.2.2 f.2.1) = lv)
    (hk : ∀ (v : Int64) (s : xS), xTr Ms Ly R (.inl (f.1 + 3, lv, .long v :: rest, s)) (k (v, s)) K) : xTr Ms Ly R (.inl f) (Y.bind k) K := fun z e => by
  cases hu : Y with
  | none => rw [hu] at e; cases e
  | some y =>
    rw [hu] at e
    exact (xcall_go hc h1 hm hr hlv (hY.end hu rfl)).tr (hk y.1 y.2 z e)
theorem xTr.callv {Y : Option xS} {k : xS → Option τ} (hY : xTr Ms Ly R' (.inl (0, lv_args 0 as, [], f.2.2.2)) Y (fun y => .inr (Option.none, y))) (hc : (match xlk (xri R) f.1 with | Option.none => false | some e => xisc e.1) = true) (h1 : xone Ly R f = some (.inr (.inl (ci, as, rest)))) (hm : Ms[ci]? = some R') (hr : (xrecv Ly R' as && Nat.ble (lg_sl as).length (xrL R')) = true) (hlv : (match xlk (xri R) f.1 with | Option.none => f.2.1 | some e => xmask e.2.2.2.2 f.2.1) = lv)
    (hk : ∀ (s : xS), xTr Ms Ly R (.inl (f.1 + 3, lv, rest, s)) (k s) K) : xTr Ms Ly R (.inl f) (Y.bind k) K := fun z e => by
  cases hu : Y with
  | none => rw [hu] at e; cases e
  | some y =>
    rw [hu] at e
    exact (xcall_go hc h1 hm hr hlv (hY.end hu rfl)).tr (hk y z e)
end CALLS
end XTR
def xal (q : Nat) : Nat := match xFL[q]? with
  | some (.inl b) => b.2
  | _ => 0
def xra (p i : Nat) : Int32 := match xRA p with
  | some b => b.2.2 i
  | none => 0
