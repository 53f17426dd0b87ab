section FRAMES
variable {G : GG} {S : Nat → Nat → Prop} {h h' : HH} {x o t : Nat} {T : TT} {p : Nat → Nat} {len hand : Nat} {op : Option Nat} {gone : Bool} {bl : List (Nat × Nat)} {ad na : Nat → Nat} {ch : Nat → List Nat} {ba cp : Nat → Nat} {ga gb gc : Nat}
theorem EN.fk {a n nl : Nat} {nf : Nat → Nat} (hE : EN G h a n nl nf) (hF : FK S h h') (h1 : ¬ S a 0) (h2 : ∀ k, ¬ S n k) : EN G h' a n nl nf := by
  obtain ⟨ha, hka, hna, hn, hkn, hnl, hnf, hnf2⟩ := hE
  have hz := hF.1
  exact ⟨⟨ha.1, by omega⟩, by rw [hF.2.1 a ha.2]; exact hka, (hF.2.2 a 0 ha.2 h1).trans hna, ⟨hn.1, by omega⟩, (hF.2.1 n hn.2).trans hkn, hnl, fun k hk => (hF.2.2 n k hn.2 (h2 k)).trans (hnf k hk), hnf2⟩
theorem CT.fk (hC : CT G h x T ad na ch) (hF : FK S h h') (hS : ∀ b j, b < h.2.2 → S b j → (h.1 b).1 ≠ 2 ∧ ((h.1 b).1 = 3 → 3 ≤ j) ∧ ((h.1 b).1 = 101 → b = x + 2)) : CT G h' x T ad na ch := by
  obtain ⟨c0, c1, c2, c3, c4, c5⟩ := hC
  have key : ∀ e, e < 300 → T.1 e ≠ 0 → ∀ j, j ≤ 2 → h'.2.1 (ad e) j = h.2.1 (ad e) j := fun e he hl j hj => by
    obtain ⟨hE, hk, -⟩ := c1 e he hl
    refine hF.2.2 _ _ hE.1.2 (fun z => ?_)
    obtain ⟨s1, s2, -⟩ := hS _ _ hE.1.2 z
    rcases hE.2.1 with q | q
    · exact s1 q
    · have := s2 q; omega
  have key2 : ∀ e, e < 300 → T.1 e = 2 → ∀ j, h'.2.1 (ad e) j = h.2.1 (ad e) j := fun e he hl j => by
    obtain ⟨hE, hk, -⟩ := c1 e he (by omega)
    exact hF.2.2 _ _ hE.1.2 (fun z => (hS _ _ hE.1.2 z).1 (by omega))
  refine ⟨c0, fun e he hl => ?_, fun e he hl h0 => ⟨(key e he hl 1 (by omega)).trans (c2 e he hl h0).1, (c2 e he hl h0).2⟩, ⟨(key2 0 (by omega) c3.2.1 1).trans c3.1, c3.2⟩, c4, fun d hd h2 => ?_⟩
  · obtain ⟨hE, hk, hn⟩ := c1 e he hl
    refine ⟨hE.fk hF (fun z => ?_) (fun k z => ?_), by rw [hF.2.1 _ hE.1.2]; exact hk, hn⟩
    · obtain ⟨s1, s2, -⟩ := hS _ _ hE.1.2 z
      rcases hE.2.1 with q | q
      · exact s1 q
      · have := s2 q; omega
    · exact hn ((hS _ _ hE.2.2.2.1.2 z).2.2 (by rw [hE.2.2.2.2.1]))
  · obtain ⟨d1, d2, d3, d4⟩ := c5 d hd h2
    refine ⟨?_, (key2 d hd h2 4).trans d2, d3, d4⟩
    rw [key2 d hd h2 3]
    refine lnk_congr (fun i hi => ?_) d1
    have hi2 := (d4 i).mp hi
    exact key i hi2.2.1 hi2.2.2.1 2 (by omega)
theorem CF.fk (hC : CF G h o T bl ad ba cp) (hF : FK S h h') (hS : ∀ b j, b < h.2.2 → S b j → ((h.1 b).1 = 3 → j ≤ 2) ∧ ((h.1 b).1 = 102 → b = o + 7)) : CF G h' o T bl ad ba cp := by
  refine ⟨fun e he h1 => ?_, hC.2⟩
  obtain ⟨hB, hb⟩ := hC.1 e he h1
  refine ⟨hB.fr hF.1 hF.2.1 (hF.2.2 _ _ hB.1.2 (fun z => ?_)) (hF.2.2 _ _ hB.1.2 (fun z => ?_)) (fun j => hF.2.2 _ _ hB.2.2.2.2.1.2 (fun z => ?_)), hb⟩
  · have := (hS _ _ hB.1.2 z).1 hB.2.1; omega
  · have := (hS _ _ hB.1.2 z).1 hB.2.1; omega
  · exact hb ((hS _ _ hB.2.2.2.2.1.2 z).2 (by rw [hB.2.2.2.2.2.1]))
theorem CP.fk (hC : CP G h x T hand bl ad) (hF : FK S h h') (hS : ∀ j, ¬ S x j) : CP G h' x T hand bl ad := by
  obtain ⟨a1, a2, a3, a4, a5, a6, a7, a8, a9⟩ := hC
  have hz := hF.1
  have key : ∀ j v, h.2.1 x j = v → h'.2.1 x j = v := fun j v e => (hF.2.2 x j a1.2 (hS j)).trans e
  exact ⟨⟨a1.1, by omega⟩, by rw [hF.2.1 x a1.2]; exact a2, key _ _ a3, key _ _ a4, key _ _ a5, a6, key _ _ a7, key _ _ a8, key _ _ a9⟩
theorem TX.fk (hT : TX G h t p len) (hF : FK S h h') (hS : ∀ j, ¬ S t j ∧ ¬ S (t + 1) j) : TX G h' t p len := by
  obtain ⟨ht, htk, hca, hln, hcs, hck, hch, hl2, hp2⟩ := hT
  have hz := hF.1
  exact ⟨⟨ht.1, by omega⟩, by rw [hF.2.1 t ht.2]; exact htk, (hF.2.2 _ _ ht.2 (hS 0).1).trans hca, (hF.2.2 _ _ ht.2 (hS 1).1).trans hln, ⟨hcs.1, by omega⟩, (hF.2.1 _ hcs.2).trans hck, fun j hj => (hF.2.2 _ _ hcs.2 (hS j).2).trans (hch j hj), hl2, hp2⟩
theorem FB.fk0 {a b C : Nat} (hB : FB G h a b C []) (hF : FK S h h') (h3 : ¬ S a 3) (h4 : ¬ S a 4) : FB G h' a b C [] := by
  obtain ⟨b1, b2, b3, b4, b5, b6, b7, b8, b9, b10⟩ := hB
  have hz := hF.1
  exact ⟨⟨b1.1, by omega⟩, by rw [hF.2.1 a b1.2]; exact b2, (hF.2.2 _ _ b1.2 h3).trans b3, (hF.2.2 _ _ b1.2 h4).trans b4, ⟨b5.1, by omega⟩, (hF.2.1 _ b5.2).trans b6, b7, b8, fun k hk => absurd hk (Nat.not_lt_zero k), b10⟩
theorem CO.fk (hC : CO G h x T op gone ad ga gb gc) (hx : x < h.2.2) (hF : FK S h h') (h3 : ¬ S x 3) (hga : ∀ e, op = some e → gone = true → ¬ S ga 1 ∧ ¬ S ga 3 ∧ ¬ S ga 4) : CO G h' x T op gone ad ga gb gc := by
  refine ⟨(hF.2.2 _ _ hx h3).trans hC.1, hC.2.1, fun e h1 h2 => ?_⟩
  obtain ⟨hB, hn, ho⟩ := hC.2.2 e h1 h2
  obtain ⟨s1, s3, s4⟩ := hga e h1 h2
  exact ⟨hB.fk0 hF s3 s4, (hF.2.2 _ _ hB.1.2 s1).trans hn, ho⟩
/-! chains -/
theorem CT.en {e : Nat} (hC : CT G h x T ad na ch) (he : e < 300) (hl : T.1 e ≠ 0) : EN G h (ad e) (na e) (T.2.2.1 e) (T.2.2.2 e) := (hC.2.1 e he hl).1
theorem CT.dir {d : Nat} (hC : CT G h x T ad na ch) (hd : d < 300) (h2 : T.1 d = 2) : (g_0 G ≤ ad d ∧ ad d < h.2.2) ∧ (h.1 (ad d)).1 = 2 := by
  have h1 := hC.2.1 d hd (by omega)
  exact ⟨h1.1.1, by omega⟩
theorem CT.file {d : Nat} (hC : CT G h x T ad na ch) (hd : d < 300) (h2 : T.1 d = 1) : (g_0 G ≤ ad d ∧ ad d < h.2.2) ∧ (h.1 (ad d)).1 = 3 := by
  have h1 := hC.2.1 d hd (by omega)
  exact ⟨h1.1.1, by omega⟩
theorem CT.mem {d : Nat} (hC : CT G h x T ad na ch) (hd : d < 300) (h2 : T.1 d = 2) {i : Nat} : i ∈ ch d ↔ (1 ≤ i ∧ i < 300 ∧ T.1 i ≠ 0 ∧ T.2.1 i = d) := (hC.2.2.2.2.2 d hd h2).2.2.2 i
theorem CT.ens {d : Nat} (hC : CT G h x T ad na ch) (hd : d < 300) (h2 : T.1 d = 2) : ∀ i ∈ ch d, EN G h (ad i) (na i) (T.2.2.1 i) (T.2.2.2 i) := fun i hi => by
  have h3 := (hC.mem hd h2).mp hi
  exact hC.en h3.2.1 h3.2.2.1
theorem pw_nodup {R : Nat → Nat → Prop} (hR : ∀ a, ¬ R a a) {l : List Nat} (hl : l.Pairwise R) : l.Nodup := by
  unfold List.Nodup
  refine hl.imp ?_
  intro a b hab z
  rw [z] at hab
  exact hR b hab
theorem CT.nodup {d : Nat} (hC : CT G h x T ad na ch) (hd : d < 300) (h2 : T.1 d = 2) : (ch d).Nodup :=
  pw_nodup (R := fun a b => s_lt (T.2.2.2 a) (T.2.2.1 a) (T.2.2.2 b) (T.2.2.1 b)) (fun _ => s_lt_irr (fun _ _ => rfl)) (hC.2.2.2.2.2 d hd h2).2.2.1
theorem CT.len3 {d : Nat} (hC : CT G h x T ad na ch) (hd : d < 300) (h2 : T.1 d = 2) : (ch d).length ≤ 300 := by
  have h3 := (hC.nodup hd h2).length_le_of_subset (l₂ := List.range 300) (fun i hi => List.mem_range.mpr ((hC.mem hd h2).mp hi).2.1)
  rw [List.length_range] at h3
  exact h3
theorem CT.inj {d : Nat} (hC : CT G h x T ad na ch) (hd : d < 300) (h2 : T.1 d = 2) : ∀ i ∈ ch d, ∀ k ∈ ch d, ad i = ad k → i = k := fun i hi k hk e => by
  have h3 := (hC.mem hd h2).mp hi
  have h4 := (hC.mem hd h2).mp hk
  exact hC.2.2.2.2.1 i k h3.2.1 h4.2.1 h3.2.2.1 h4.2.2.1 e
theorem pw_mem {R : Nat → Nat → Prop} {l : List Nat} (hl : l.Pairwise R) {a b : Nat} (ha : a ∈ l) (hb : b ∈ l) (hne : a ≠ b) : R a b ∨ R b a := by
  induction l with
  | nil => cases ha
  | cons c l ih =>
    rw [List.pairwise_cons] at hl
    rcases List.mem_cons.mp ha with e | e
    · rcases List.mem_cons.mp hb with f | f
      · exact absurd (e.trans f.symm) hne
      · rw [e]; exact Or.inl (hl.1 b f)
    · rcases List.mem_cons.mp hb with f | f
      · rw [f]; exact Or.inr (hl.1 a e)
      · exact ih hl.2 e f
theorem CT.uniq {d i k : Nat} (hC : CT G h x T ad na ch) (hd : d < 300) (h2 : T.1 d = 2) (hi : i ∈ ch d) (hk : k ∈ ch d) (hs : T.2.2.1 i = T.2.2.1 k) (hn : ∀ q, q < T.2.2.1 i → T.2.2.2 i q = T.2.2.2 k q) : i = k := by
  by_cases e : i = k
  · exact e
  · exfalso
    rcases pw_mem (hC.2.2.2.2.2 d hd h2).2.2.1 hi hk e with z | z
    · rw [← hs] at z; exact s_lt_irr hn z
    · rw [← hs] at z; exact s_lt_irr (fun q hq => (hn q hq).symm) z
theorem s_ent_none' {a b d : Nat} (hn : s_ent T p d a b = none) : ∀ e, e < 300 → ¬ s_mt T p d a b e := by
  unfold s_ent at hn
  rw [List.find?_eq_none] at hn
  intro e he q
  exact hn e (List.mem_range.mpr he) (decide_eq_true q)
theorem CT.ent1 {d i a b : Nat} (hC : CT G h x T ad na ch) (hd : d < 300) (h2 : T.1 d = 2) (hi : i ∈ ch d) (he : s_eq (T.2.2.2 i) (T.2.2.1 i) p a b) : s_ent T p d a b = some i := by
  have h3 := (hC.mem hd h2).mp hi
  have hm : s_mt T p d a b i := ⟨⟨h3.1, h3.2.2.1, h3.2.2.2, he.1⟩, fun k hk => he.2 k hk⟩
  cases hr : s_ent T p d a b with
  | none => exact absurd hm (s_ent_none' hr i h3.2.1)
  | some k =>
    obtain ⟨k1, ⟨k2, k3⟩⟩ := s_ent_some hr
    have hk : k ∈ ch d := (hC.mem hd h2).mpr ⟨k2.1, k1, k2.2.1, k2.2.2.1⟩
    rw [hC.uniq hd h2 hi hk (he.1.trans k2.2.2.2.symm) (fun q hq => by rw [he.1] at hq; exact (he.2 q hq).trans (k3 q hq).symm)]
theorem CT.ent0 {d a b : Nat} (hC : CT G h x T ad na ch) (hd : d < 300) (h2 : T.1 d = 2) (hn : ∀ i ∈ ch d, ¬ s_eq (T.2.2.2 i) (T.2.2.1 i) p a b) : s_ent T p d a b = none :=
  s_ent_none (fun e he hm => hn e ((hC.mem hd h2).mpr ⟨hm.1.1, he, hm.1.2.1, hm.1.2.2.1⟩) ⟨hm.1.2.2.2, fun k hk => hm.2 k hk⟩)
theorem CT.along {e e' a b : Nat} (hC : CT G h x T ad na ch) (he : e < 300) (hl : T.1 e ≠ 0) (hr : s_along T p e a b = some e') : e' < 300 ∧ T.1 e' ≠ 0 := by
  unfold s_along at hr
  split at hr
  · cases hr; exact ⟨he, hl⟩
  · split at hr
    · cases hr
    · split at hr
      · cases hr; exact ⟨he, hl⟩
      · split at hr
        · cases hr
          by_cases z : e = 0
          · subst z; rw [hC.2.2.2.1.2.2]; exact ⟨he, hl⟩
          · have := (hC.2.2.1 e he hl z).2
            exact ⟨(hC.1 e he).2, by omega⟩
        · have h9 := s_ent_some hr
          exact ⟨h9.1, h9.2.1.2.1⟩
theorem CT.w (hC : CT G h x T ad na ch) : ∀ (r y f e e' : Nat), e < 300 → T.1 e ≠ 0 → s_w T p r y f e = some e' → e' < 300 ∧ T.1 e' ≠ 0
  | 0, y, f, e, e', he, hl, hr => hC.along he hl hr
  | r + 1, y, f, e, e', he, hl, hr => by
    unfold s_w at hr
    split at hr
    · split at hr
      · cases hr
      · next e2 h2 =>
        have h3 := hC.along he hl h2
        exact hC.w r _ _ e2 e' h3.1 h3.2 hr
    · exact hC.w r _ _ e e' he hl hr
end FRAMES
