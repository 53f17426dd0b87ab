/-! THE SPECIFICATION: a tree by numbers (kinds, parents, lengths of names, names), a path, and what the calls ask of them -/
abbrev TT : Type := (Nat → Nat) × (Nat → Nat) × (Nat → Nat) × (Nat → Nat → Nat)
/-- the place behind the last slash -/
def s_last (p : Nat → Nat) : Nat → Nat
  | 0 => 0
  | k + 1 => if p k = 47 then k + 1 else s_last p k
theorem s_last_le (p : Nat → Nat) : ∀ n, s_last p n ≤ n
  | 0 => Nat.le_refl 0
  | k + 1 => by
    unfold s_last
    split
    · exact Nat.le_refl _
    · exact Nat.le_succ_of_le (s_last_le p k)
theorem s_last_slash (p : Nat → Nat) : ∀ n, 0 < s_last p n → p (s_last p n - 1) = 47
  | 0 => fun h => absurd h (Nat.lt_irrefl 0)
  | k + 1 => by
    unfold s_last
    split
    · intro _; assumption
    · exact s_last_slash p k
abbrev s_mt (T : TT) (p : Nat → Nat) (d a b e : Nat) : Prop := (1 ≤ e ∧ T.1 e ≠ 0 ∧ T.2.1 e = d ∧ T.2.2.1 e = b - a) ∧ ∀ k, k < b - a → T.2.2.2 e k = p (a + k)
/-- the entry of directory d that the characters a .. b - 1 of the path name -/
def s_ent (T : TT) (p : Nat → Nat) (d a b : Nat) : Option Nat := (List.range 300).find? (fun e => decide (s_mt T p d a b e))
theorem s_ent_some {T : TT} {p : Nat → Nat} {d a b e : Nat} (h : s_ent T p d a b = some e) : e < 300 ∧ s_mt T p d a b e := by
  unfold s_ent at h
  refine ⟨List.mem_range.mp (List.mem_of_find?_eq_some h), ?_⟩
  have h2 := List.find?_some h
  exact of_decide_eq_true h2
theorem s_ent_none {T : TT} {p : Nat → Nat} {d a b : Nat} (h : ∀ e, e < 300 → ¬ s_mt T p d a b e) : s_ent T p d a b = none := by
  unfold s_ent
  rw [List.find?_eq_none]
  intro e he q
  exact h e (List.mem_range.mp he) (of_decide_eq_true q)
theorem find_range {P : Nat → Bool} {n e : Nat} (he : e < n) (h1 : P e = true) (h2 : ∀ k, k < e → P k = false) : (List.range n).find? P = some e := by
  induction n with
  | zero => omega
  | succ n ih =>
    rw [List.range_succ, List.find?_append]
    by_cases h : e < n
    · rw [ih h]; rfl
    · have : e = n := by omega
      subst this
      have : (List.range e).find? P = none := by
        rw [List.find?_eq_none]
        intro k hk q
        rw [h2 k (List.mem_range.mp hk)] at q
        cases q
      rw [this]
      simp [h1]
theorem s_ent_first {T : TT} {p : Nat → Nat} {d a b e : Nat} (he : e < 300) (h : s_mt T p d a b e) (hf : ∀ k, k < e → ¬ s_mt T p d a b k) : s_ent T p d a b = some e :=
  find_range he (decide_eq_true h) (fun k hk => decide_eq_false (hf k hk))
/-- one name from an entry -/
def s_along (T : TT) (p : Nat → Nat) (e a b : Nat) : Option Nat :=
  if a = b then some e else if T.1 e ≠ 2 then none else if b - a = 1 ∧ p a = 46 then some e else if b - a = 2 ∧ p a = 46 ∧ p (a + 1) = 46 then some (T.2.1 e) else s_ent T p e a b
/-- the path's characters from 'from' on, r of them behind 'at', from an entry -/
def s_w (T : TT) (p : Nat → Nat) : Nat → Nat → Nat → Nat → Option Nat
  | 0, x, f, e => s_along T p e f x
  | r + 1, x, f, e => if p x = 47 then (match s_along T p e f x with | none => none | some e' => s_w T p r (x + 1) (x + 1) e') else s_w T p r (x + 1) f e
def s_lead0 (T : TT) (p : Nat → Nat) (hand n : Nat) : Option Nat := s_w T p n 0 0 (if p 0 = 47 then 0 else hand)
def s_lead (T : TT) (p : Nat → Nat) (hand n : Nat) : Option Nat := if n = 0 then none else match s_lead0 T p hand n with
  | none => none
  | some e => if p (n - 1) = 47 ∧ T.1 e ≠ 2 then none else some e
def s_dir (T : TT) (r : Option Nat) : Option Nat := match r with
  | none => none
  | some e => if T.1 e = 2 then some e else none
def s_home (T : TT) (p : Nat → Nat) (hand len : Nat) : Option Nat := if s_last p len = 0 then some hand else s_dir T (s_lead0 T p hand (s_last p len - 1))
abbrev s_isName (p : Nat → Nat) (len : Nat) : Prop := 1 ≤ len - s_last p len ∧ len - s_last p len ≤ 60 ∧ ¬ (len - s_last p len = 1 ∧ p (s_last p len) = 46) ∧ ¬ (len - s_last p len = 2 ∧ p (s_last p len) = 46 ∧ p (s_last p len + 1) = 46)
/-- one name comes before another -/
def s_lt (n1 : Nat → Nat) (l1 : Nat) (n2 : Nat → Nat) (l2 : Nat) : Prop := ∃ x, x ≤ l1 ∧ x < l2 ∧ (∀ k, k < x → n1 k = n2 k) ∧ (x = l1 ∨ n1 x < n2 x)
/-- a number less one -/
def lm (k : Nat) : Int32 := nI k - 1
theorem lm_s (k : Nat) : lm (k + 1) = nI k := nI_pred k
theorem lm_0 : lm 0 = -1 := by decide
theorem lm_add (k : Nat) : lm k + nI 1 = nI k := by
  cases k with
  | zero => decide
  | succ k => rw [lm_s, nI_add]
theorem zz_lm {k : Nat} (h : k < 2 ^ 31) : lm k < 0 ↔ k = 0 := by
  cases k with
  | zero => rw [lm_0]; decide
  | succ k => rw [lm_s, zz_lt0 (by omega)]; exact ⟨False.elim, fun q => by omega⟩
/-- the answer of a search: a number, or -1 -/
def oI (r : Option Nat) : Int32 := match r with
  | none => -1
  | some e => nI e
