/-! the order of names -/
theorem s_lt_irr {n1 n2 : Nat → Nat} {l : Nat} (he : ∀ k, k < l → n1 k = n2 k) : ¬ s_lt n1 l n2 l := by
  rintro ⟨x, h1, h2, h3, h4⟩
  rcases h4 with h4 | h4
  · omega
  · have := he x h2; omega
theorem s_lt_tr {n1 n2 n3 : Nat → Nat} {l1 l2 l3 : Nat} (a : s_lt n1 l1 n2 l2) (b : s_lt n2 l2 n3 l3) : s_lt n1 l1 n3 l3 := by
  obtain ⟨x, a1, a2, a3, a4⟩ := a
  obtain ⟨y, b1, b2, b3, b4⟩ := b
  rcases Nat.lt_trichotomy x y with h | h | h
  · refine ⟨x, a1, by omega, fun k hk => (a3 k hk).trans (b3 k (by omega)), ?_⟩
    rcases a4 with a4 | a4
    · exact Or.inl a4
    · right; rw [← b3 x h]; exact a4
  · subst h
    refine ⟨x, a1, b2, fun k hk => (a3 k hk).trans (b3 k hk), ?_⟩
    rcases a4 with a4 | a4
    · exact Or.inl a4
    · rcases b4 with b4 | b4
      · omega
      · right; omega
  · refine ⟨y, by omega, b2, fun k hk => (a3 k (by omega)).trans (b3 k hk), ?_⟩
    rcases b4 with b4 | b4
    · omega
    · right; rw [a3 y h]; exact b4
theorem s_lt_tri (n1 : Nat → Nat) (l1 : Nat) (n2 : Nat → Nat) (l2 : Nat) : s_lt n1 l1 n2 l2 ∨ s_lt n2 l2 n1 l1 ∨ (l1 = l2 ∧ ∀ k, k < l1 → n1 k = n2 k) := by
  have key : ∀ r x, x + r = min l1 l2 → (∀ k, k < x → n1 k = n2 k) → s_lt n1 l1 n2 l2 ∨ s_lt n2 l2 n1 l1 ∨ (l1 = l2 ∧ ∀ k, k < l1 → n1 k = n2 k) := by
    intro r
    induction r with
    | zero =>
      intro x hx he
      rcases Nat.lt_trichotomy l1 l2 with h | h | h
      · exact Or.inl ⟨l1, Nat.le_refl _, h, fun k hk => he k (by omega), Or.inl rfl⟩
      · exact Or.inr (Or.inr ⟨h, fun k hk => he k (by omega)⟩)
      · exact Or.inr (Or.inl ⟨l2, Nat.le_refl _, h, fun k hk => (he k (by omega)).symm, Or.inl rfl⟩)
    | succ r ih =>
      intro x hx he
      rcases Nat.lt_trichotomy (n1 x) (n2 x) with h | h | h
      · exact Or.inl ⟨x, by omega, by omega, he, Or.inr h⟩
      · refine ih (x + 1) (by omega) (fun k hk => ?_)
        rcases Nat.lt_succ_iff_lt_or_eq.mp hk with z | z
        · exact he k z
        · rw [z]; exact h
      · exact Or.inr (Or.inl ⟨x, by omega, by omega, fun k hk => (he k hk).symm, Or.inr h⟩)
  exact key (min l1 l2) 0 (by omega) (fun k hk => by omega)
/-! counts -/
theorem s_cnt_congr {f g : Nat → Bool} : ∀ {n : Nat}, (∀ e, e < n → f e = g e) → s_cnt f n = s_cnt g n
  | 0, _ => rfl
  | n + 1, h => by
    unfold s_cnt
    rw [s_cnt_congr (fun e he => h e (by omega)), h n (by omega)]
theorem s_cnt_up {f g : Nat → Bool} {y : Nat} (hf : f y = false) (hg : g y = true) (he : ∀ e, e ≠ y → f e = g e) : ∀ {n : Nat}, y < n → s_cnt g n = s_cnt f n + 1
  | 0, h => by omega
  | n + 1, h => by
    by_cases z : y = n
    · subst z
      unfold s_cnt
      rw [hf, hg, s_cnt_congr (fun e hx => he e (by omega))]
      simp
    · unfold s_cnt
      rw [s_cnt_up hf hg he (n := n) (by omega), he n (by omega)]
      omega
theorem s_cnt_pos {f : Nat → Bool} {y : Nat} (hf : f y = true) : ∀ {n : Nat}, y < n → 1 ≤ s_cnt f n
  | 0, h => by omega
  | n + 1, h => by
    unfold s_cnt
    by_cases z : y = n
    · subst z; rw [hf]; simp
    · have := s_cnt_pos hf (n := n) (by omega); omega
theorem s_many_two {T : TT} : ∀ {n : Nat}, (∀ e, e < n → T.1 e ≤ 2) → s_cnt (fun e => decide (T.1 e ≠ 0)) n = s_cnt (fun e => decide (T.1 e = 1)) n + s_cnt (fun e => decide (T.1 e = 2)) n
  | 0, _ => rfl
  | n + 1, h => by
    have h1 := s_many_two (T := T) (n := n) (fun e he => h e (by omega))
    have h2 := h n (by omega)
    simp only [s_cnt]
    rw [h1]
    rcases (by omega : T.1 n = 0 ∨ T.1 n = 1 ∨ T.1 n = 2) with z | z | z <;> simp [z] <;> omega
/-! frames -/
def FK (S : Nat → Nat → Prop) (h h' : HH) : Prop := h.2.2 ≤ h'.2.2 ∧ (∀ b, b < h.2.2 → h'.1 b = h.1 b) ∧ ∀ b j, b < h.2.2 → ¬ S b j → h'.2.1 b j = h.2.1 b j
theorem FK.rf {S : Nat → Nat → Prop} {h : HH} : FK S h h := ⟨Nat.le_refl _, fun _ _ => rfl, fun _ _ _ _ => rfl⟩
theorem FK.tr {S : Nat → Nat → Prop} {h h1 h2 : HH} (a : FK S h h1) (b : FK S h1 h2) : FK S h h2 :=
  ⟨Nat.le_trans a.1 b.1, fun x hx => (b.2.1 x (Nat.lt_of_lt_of_le hx a.1)).trans (a.2.1 x hx), fun x j hx hS => (b.2.2 x j (Nat.lt_of_lt_of_le hx a.1) hS).trans (a.2.2 x j hx hS)⟩
theorem FK.mono {S S' : Nat → Nat → Prop} {h h' : HH} (a : FK S h h') (hS : ∀ b j, b < h.2.2 → S b j → S' b j) : FK S' h h' := ⟨a.1, a.2.1, fun b j hb hn => a.2.2 b j hb (fun z => hn (hS b j hb z))⟩
theorem FK.put {h : HH} {a k : Nat} {v : Value} : FK (fun b j => b = a ∧ j = k) h (h_put h a k v) := ⟨Nat.le_refl _, fun _ _ => rfl, fun b j _ hn => hp_ne hn⟩
theorem FK.of {S : Nat → Nat → Prop} {h h' : HH} (h1 : h'.1 = h.1) (h2 : h'.2.2 = h.2.2) (h3 : ∀ b j, ¬ S b j → h'.2.1 b j = h.2.1 b j) : FK S h h' := ⟨by omega, fun _ _ => by rw [h1], fun b j _ hn => h3 b j hn⟩
/-- the places of the reference: their kinds are none of the class's -/
def NK (o : Nat) (h : HH) : Prop := o + 8 < h.2.2 ∧ ∀ b, o ≤ b → b ≤ o + 8 → 4 ≤ (h.1 b).1 ∧ (h.1 b).1 ≠ 101 ∧ ((h.1 b).1 = 102 → b = o + 7)
theorem NK.fr {S : Nat → Nat → Prop} {o : Nat} {h h' : HH} (hN : NK o h) (hF : FK S h h') : NK o h' :=
  ⟨Nat.lt_of_lt_of_le hN.1 hF.1, fun b h1 h2 => by rw [hF.2.1 b (Nat.lt_of_le_of_lt h2 hN.1)]; exact hN.2 b h1 h2⟩
/-- what a call of the class leaves to the reference -/
def CFr (o : Nat) (h h' : HH) : Prop := h.2.2 ≤ h'.2.2 ∧ (∀ b, b < h.2.2 → h'.1 b = h.1 b) ∧ ∀ b j, o ≤ b → b ≤ o + 8 → h'.2.1 b j = h.2.1 b j
theorem CFr.rf {o : Nat} {h : HH} : CFr o h h := ⟨Nat.le_refl _, fun _ _ => rfl, fun _ _ _ _ => rfl⟩
theorem CFr.tr {o : Nat} {h h1 h2 : HH} (a : CFr o h h1) (b : CFr o h1 h2) : CFr o h h2 :=
  ⟨Nat.le_trans a.1 b.1, fun x hx => (b.2.1 x (Nat.lt_of_lt_of_le hx a.1)).trans (a.2.1 x hx), fun x j h1 h2 => (b.2.2 x j h1 h2).trans (a.2.2 x j h1 h2)⟩
theorem FK.cfr {S : Nat → Nat → Prop} {o : Nat} {h h' : HH} (hF : FK S h h') (hN : NK o h) (hS : ∀ b j, b < h.2.2 → S b j → ((h.1 b).1 < 4 ∨ (h.1 b).1 = 101 ∨ ((h.1 b).1 = 102 ∧ b ≠ o + 7))) : CFr o h h' := by
  refine ⟨hF.1, hF.2.1, fun b j h1 h2 => hF.2.2 b j (Nat.lt_of_le_of_lt h2 hN.1) (fun z => ?_)⟩
  have h3 := hN.2 b h1 h2
  have h4 := hS b j (Nat.lt_of_le_of_lt h2 hN.1) z
  have h5 := h3.2.2
  omega
theorem RI.nk {G : GG} {h : HH} {o : Nat} {T : TT} {p : Nat → Nat} {len hand : Nat} {op : Option Nat} {gone : Bool} {ents : Nat} {bl : List (Nat × Nat)} (hI : RI G h o T p len hand op gone ents bl) : NK o h := by
  obtain ⟨⟨hz, hk0, hk1, hk2, hk3, hk4, hk5, hk6, hk7, hk8, -⟩, -⟩ := hI
  refine ⟨by omega, fun b h1 h2 => ?_⟩
  rcases (by omega : b = o ∨ b = o + 1 ∨ b = o + 2 ∨ b = o + 3 ∨ b = o + 4 ∨ b = o + 5 ∨ b = o + 6 ∨ b = o + 7 ∨ b = o + 8) with e | e | e | e | e | e | e | e | e <;> subst e
  · rw [hk0]; omega
  · rw [hk1]; exact ⟨by decide, by decide, fun z => by cases z⟩
  · rw [hk2]; exact ⟨by decide, by decide, fun z => by cases z⟩
  · rw [hk3]; exact ⟨by decide, by decide, fun z => by cases z⟩
  · rw [hk4]; exact ⟨by decide, by decide, fun z => by cases z⟩
  · rw [hk5]; exact ⟨by decide, by decide, fun z => by cases z⟩
  · rw [hk6]; exact ⟨by decide, by decide, fun z => by cases z⟩
  · rw [hk7]; exact ⟨by decide, by decide, fun _ => rfl⟩
  · rw [hk8]; exact ⟨by decide, by decide, fun z => by cases z⟩
theorem RI.cfr {G : GG} {h h' : HH} {o : Nat} {T : TT} {p : Nat → Nat} {len hand : Nat} {op : Option Nat} {gone : Bool} {ents : Nat} {bl : List (Nat × Nat)} (hI : RI G h o T p len hand op gone ents bl) (hF : CFr o h h') : RI G h' o T p len hand op gone ents bl := by
  obtain ⟨hS, hP, hT, hH, hO, hg, hE, hB, hop⟩ := hI
  obtain ⟨hz, hk0, hk1, hk2, hk3, hk4, hk5, hk6, hk7, hk8, hf0, hf2, hf3, hf4, hf5, hf6, hf12, hf13⟩ := hS
  obtain ⟨hln, hpp, hl2, hp⟩ := hP
  obtain ⟨hkd, hkd2, hin, hin2, hns, hns2, hnm, hnm2⟩ := hT
  obtain ⟨b1, b2, b3, b4, b5, b6⟩ := hB
  obtain ⟨z, k, f⟩ := hF
  have f0 : ∀ b j, o ≤ b → b ≤ o + 8 → ∀ v, h.2.1 b j = v → h'.2.1 b j = v := fun b j h1 h2 v e => (f b j h1 h2).trans e
  refine ⟨⟨⟨hz.1, by omega⟩, by rw [k _ (by omega)]; exact hk0, (k _ (by omega)).trans hk1, (k _ (by omega)).trans hk2, (k _ (by omega)).trans hk3, (k _ (by omega)).trans hk4, (k _ (by omega)).trans hk5, (k _ (by omega)).trans hk6, (k _ (by omega)).trans hk7, (k _ (by omega)).trans hk8, f0 _ _ (by omega) (by omega) _ hf0, f0 _ _ (by omega) (by omega) _ hf2, f0 _ _ (by omega) (by omega) _ hf3, f0 _ _ (by omega) (by omega) _ hf4, f0 _ _ (by omega) (by omega) _ hf5, f0 _ _ (by omega) (by omega) _ hf6, f0 _ _ (by omega) (by omega) _ hf12, f0 _ _ (by omega) (by omega) _ hf13⟩,
    ⟨f0 _ _ (by omega) (by omega) _ hln, fun j hj => f0 _ _ (by omega) (by omega) _ (hpp j hj), hl2, hp⟩,
    ⟨fun e he => f0 _ _ (by omega) (by omega) _ (hkd e he), hkd2, fun e he => f0 _ _ (by omega) (by omega) _ (hin e he), hin2, fun e he => f0 _ _ (by omega) (by omega) _ (hns e he), hns2, fun e q he hq => f0 _ _ (by omega) (by omega) _ (hnm e q he hq), hnm2⟩,
    ⟨f0 _ _ (by omega) (by omega) _ hH.1, hH.2⟩, f0 _ _ (by omega) (by omega) _ hO, f0 _ _ (by omega) (by omega) _ hg, f0 _ _ (by omega) (by omega) _ hE, ⟨f0 _ _ (by omega) (by omega) _ b1, fun q hq => f0 _ _ (by omega) (by omega) _ (b2 q hq), fun q hq => f0 _ _ (by omega) (by omega) _ (b3 q hq), b4, b5, fun e he => f0 _ _ (by omega) (by omega) _ (b6 e he)⟩, hop⟩
/-! THE CLASS'S OBJECTS -/
/-- the tree: entry e lies at ad e, its name at na e; the chain of directory d is ch d -/
def CT (G : GG) (h : HH) (x : Nat) (T : TT) (ad na : Nat → Nat) (ch : Nat → List Nat) : Prop :=
  (∀ e, e < 300 → T.1 e ≤ 2 ∧ T.2.1 e < 300) ∧
  (∀ e, e < 300 → T.1 e ≠ 0 → EN G h (ad e) (na e) (T.2.2.1 e) (T.2.2.2 e) ∧ (h.1 (ad e)).1 + T.1 e = 4 ∧ na e ≠ x + 2) ∧
  (∀ e, e < 300 → T.1 e ≠ 0 → e ≠ 0 → h.2.1 (ad e) 1 = .ref (ad (T.2.1 e)) ∧ T.1 (T.2.1 e) = 2) ∧
  (h.2.1 (ad 0) 1 = .null ∧ T.1 0 = 2 ∧ T.2.1 0 = 0) ∧
  (∀ e f, e < 300 → f < 300 → T.1 e ≠ 0 → T.1 f ≠ 0 → ad e = ad f → e = f) ∧
  (∀ d, d < 300 → T.1 d = 2 → lnk ad h (h.2.1 (ad d) 3) (ch d) ∧ h.2.1 (ad d) 4 = .int (nI (ch d).length) ∧ (ch d).Pairwise (fun a b => s_lt (T.2.2.2 a) (T.2.2.1 a) (T.2.2.2 b) (T.2.2.1 b)) ∧ ∀ i, i ∈ ch d ↔ (1 ≤ i ∧ i < 300 ∧ T.1 i ≠ 0 ∧ T.2.1 i = d))
/-- the files' bytes -/
def CF (G : GG) (h : HH) (o : Nat) (T : TT) (bl : List (Nat × Nat)) (ad ba cp : Nat → Nat) : Prop :=
  (∀ e, e < 300 → T.1 e = 1 → FB G h (ad e) (ba e) (cp e) (s_fb bl e) ∧ ba e ≠ o + 7) ∧ ∀ e f, e < 300 → f < 300 → T.1 e = 1 → T.1 f = 1 → ba e = ba f → e = f
/-- the object itself -/
def CP (G : GG) (h : HH) (x : Nat) (T : TT) (hand : Nat) (bl : List (Nat × Nat)) (ad : Nat → Nat) : Prop :=
  (g_0 G ≤ x ∧ x < h.2.2) ∧ (h.1 x).1 = 0 ∧ h.2.1 x 0 = .ref (x + 1) ∧ h.2.1 x 1 = .ref (ad 0) ∧ h.2.1 x 2 = .ref (ad hand) ∧ (hand < 300 ∧ T.1 hand = 2) ∧
  h.2.1 x 4 = .int (nI (s_cnt (fun e => decide (T.1 e = 1)) 300)) ∧ h.2.1 x 5 = .int (nI (s_cnt (fun e => decide (T.1 e = 2)) 300)) ∧ h.2.1 x 6 = .int (nI bl.length)
/-- the address of the open file -/
def oA (op : Option Nat) (gone : Bool) (ad : Nat → Nat) (ga : Nat) : Option Nat := match op, gone with
  | none, _ => none
  | some e, false => some (ad e)
  | some _, true => some ga
/-- the open file; a removed one at ga, with an array at gb of gc places -/
def CO (G : GG) (h : HH) (x : Nat) (T : TT) (op : Option Nat) (gone : Bool) (ad : Nat → Nat) (ga gb gc : Nat) : Prop :=
  h.2.1 x 3 = va_rf (oA op gone ad ga) ∧ (∀ e, op = some e → gone = false → e < 300 ∧ T.1 e = 1) ∧
  (∀ e, op = some e → gone = true → FB G h ga gb gc [] ∧ h.2.1 ga 1 = .null ∧ ∀ e, e < 300 → T.1 e ≠ 0 → ad e ≠ ga)
/-- all of the class -/
def CI (G : GG) (h : HH) (x o : Nat) (T : TT) (p : Nat → Nat) (len hand : Nat) (op : Option Nat) (gone : Bool) (bl : List (Nat × Nat)) (ad na : Nat → Nat) (ch : Nat → List Nat) (ba cp : Nat → Nat) (ga gb gc : Nat) : Prop :=
  NK o h ∧ CP G h x T hand bl ad ∧ CO G h x T op gone ad ga gb gc ∧ TX G h (x + 1) p len ∧ CT G h x T ad na ch ∧ CF G h o T bl ad ba cp
