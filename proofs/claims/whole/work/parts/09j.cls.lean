theorem fu_id {f : Nat → Nat} {e : Nat} : fu f e (f e) = f := by
  funext q
  by_cases z : q = e
  · rw [z, fu_s]
  · rw [fu_n z]
theorem fn_id {f : Nat → Nat → Nat} {e : Nat} : fn f e (f e) = f := by
  funext q
  by_cases z : q = e
  · rw [z, fn_s]
  · rw [fn_n z]
theorem fu_two {f : Nat → Nat} {e v : Nat} : fu (fu f e v) e (f e) = f := by
  funext q
  by_cases z : q = e
  · rw [z, fu_s]
  · rw [fu_n z, fu_n z]
/-- an array with a name -/
def NA (G : GG) (h : HH) (x n nl : Nat) (nf : Nat → Nat) : Prop := (g_0 G ≤ n ∧ n < h.2.2) ∧ h.1 n = (101, nl) ∧ nl ≤ 60 ∧ (∀ k, k < nl → h.2.1 n k = .int (nI (nf k))) ∧ (∀ k, k < nl → nf k < 256) ∧ n ≠ x + 2
theorem NA.fk {G : GG} {h h' : HH} {S : Nat → Nat → Prop} {x n nl : Nat} {nf : Nat → Nat} (hN : NA G h x n nl nf) (hF : FK S h h') (hS : ∀ b j, S b j → b < h.2.2 → (h.1 b).1 ≠ 101) : NA G h' x n nl nf := by
  obtain ⟨n1, n2, n3, n4, n5, n6⟩ := hN
  have hz := hF.1
  exact ⟨⟨n1.1, by omega⟩, (hF.2.1 n n1.2).trans n2, n3, fun k hk => (hF.2.2 n k n1.2 (fun z => hS n k z n1.2 (by rw [n2]))).trans (n4 k hk), n5, n6⟩
theorem NA.cs {G : GG} {h : HH} {x n nl : Nat} {nf : Nat → Nat} (hN : NA G h x n nl nf) : CS G h n nl nf 0 nl := ⟨hN.1, hN.2.1, by have := hN.2.2.1; omega, Nat.zero_le _, Nat.le_refl _, fun j _ hj => hN.2.2.2.1 j hj, fun j _ hj => hN.2.2.2.2.1 j hj⟩
section MV
variable {G : GG} {h : HH} {x o : Nat} {T : TT} {p : Nat → Nat} {len hand : Nat} {op : Option Nat} {gone : Bool} {bl : List (Nat × Nat)} {ad na : Nat → Nat} {ch : Nat → List Nat} {ba cp : Nat → Nat} {ga gb gc : Nat} 
theorem CT.dead {a k : Nat} {v : Value} (hC : CT G h x T ad na ch) (ha : ∀ e, e < 300 → T.1 e ≠ 0 → ad e ≠ a) (hk : (h.1 a).1 ≠ 101) : CT G (h_put h a k v) x T ad na ch := by
  obtain ⟨c0, c1, c2, c3, c4, c5⟩ := hC
  have key : ∀ e, e < 300 → T.1 e ≠ 0 → ∀ j, (h_put h a k v).2.1 (ad e) j = h.2.1 (ad e) j := fun e he hl j => hp_a (ha e he hl)
  refine ⟨c0, fun e he hl => ?_, fun e he hl h0 => ⟨(key e he hl 1).trans (c2 e he hl h0).1, (c2 e he hl h0).2⟩, ⟨(key 0 (by omega) (by omega) 1).trans c3.1, c3.2⟩, c4, fun d hd h2 => ?_⟩
  · obtain ⟨hE, h3⟩ := c1 e he hl
    exact ⟨hE.fr rfl rfl (key e he hl 0) (fun q => hp_a (fun z => hk (by rw [← z, hE.2.2.2.2.1]))), h3⟩
  · obtain ⟨d1, d2, d3, d4⟩ := c5 d hd h2
    refine ⟨?_, (key d hd (by omega) 4).trans d2, d3, d4⟩
    rw [key d hd (by omega) 3]
    exact lnk_congr (fun i hi => key i ((d4 i).mp hi).2.1 ((d4 i).mp hi).2.2.1 2) d1
/-- a file is moved: after its release and its new name -/
theorem CI.mv1 {h1 h2 : HH} {f n nl : Nat} {nf : Nat → Nat} {l1 l2 : List Nat} (hI : CI G h x o T p len hand op gone bl ad na ch ba cp ga gb gc) (hf : f < 300) (hf1 : T.1 f = 1) (hN : NA G h x n nl nf) (hl : ch (T.2.1 f) = l1 ++ f :: l2) (hR : RL ad h h1 (ad (T.2.1 f)) f (ch (T.2.1 f)) (l1 ++ l2)) (e2 : h2 = h_put h1 (ad f) 0 (.ref n)) :
    CT G h2 x (fu T.1 f 0, T.2) ad na (fun e => if e = T.2.1 f then l1 ++ l2 else ch e) ∧ EN G h2 (ad f) n nl nf ∧ FK (fun b j => (h.1 b).1 = 2 ∨ ((h.1 b).1 = 3 ∧ j ≤ 2)) h h2 ∧ h2.1 = h.1 ∧ h2.2.2 = h.2.2 := by
  obtain ⟨hNK, hP, hO, hX, hC, hB⟩ := id hI
  obtain ⟨ht, htk, hca, hln, hcs, hck, hch, hl2, hp⟩ := id hX
  obtain ⟨a1, a2, a3, a4, a5, a6, a7, a8, a9⟩ := id hP
  have hf0 : f ≠ 0 := fun z => by (have h9 := hC.2.2.2.1.2.1; rw [z] at hf1; omega)
  obtain ⟨hh, hd2⟩ := hC.2.2.1 f hf (by omega) hf0
  have hd := (hC.1 f hf).2
  have hff := hC.file hf hf1
  have hT := hR.tree (hC.dir hd hd2).2 (Or.inr hff.2) (fun i hi => (hC.ens hd hd2 i hi).2.1)
  have hC1 := hC.rem ⟨by omega, hf⟩ hf1 rfl hl hR
  have hk : h2.1 = h.1 := by (rw [e2]; exact hR.1)
  have hz : h2.2.2 = h.2.2 := by (rw [e2]; exact hR.2.1)
  have hT2 : FK (fun b j => (h.1 b).1 = 2 ∨ ((h.1 b).1 = 3 ∧ j ≤ 2)) h h2 := by
    refine hT.tr ?_
    rw [e2]
    exact FK.put.mono (fun b j hb z => by rw [z.1, z.2]; right; exact ⟨hff.2, by omega⟩)
  have hN2 := hN.fk hT2 (fun b j z hb => by omega)
  refine ⟨?_, ⟨by rw [hz]; exact hff.1, by rw [hk]; exact Or.inr hff.2, by rw [e2]; exact hp_eq, hN2.1, hN2.2.1, hN2.2.2.1, hN2.2.2.2.1, hN2.2.2.2.2.1⟩, hT2, hk, hz⟩
  rw [e2]
  refine hC1.dead (fun e he hl z => ?_) (by rw [hR.1, hff.2]; omega)
  have hl : fu T.1 f 0 e ≠ 0 := hl
  by_cases q : e = f
  · rw [q, fu_s] at hl; exact hl rfl
  · rw [fu_n q] at hl
    exact q (hC.2.2.2.2.1 e f he hf hl (by omega) z)
/-- and after its admission -/
theorem CI.mv2 {h2 h3 : HH} {f d n nl : Nat} {nf : Nat → Nat} {ch1 : Nat → List Nat} {m1 m2 : List Nat} (hI : CI G h x o T p len hand (some f) false bl ad na ch ba cp ga gb gc) (hf : f < 300) (hf1 : T.1 f = 1) (hd : d < 300) (hd2 : T.1 d = 2) (hn : n ≠ x + 2)
    (hC2 : CT G h2 x (fu T.1 f 0, T.2) ad na ch1) (hE2 : EN G h2 (ad f) n nl nf) (hT2 : FK (fun b j => (h.1 b).1 = 2 ∨ ((h.1 b).1 = 3 ∧ j ≤ 2)) h h2) (hk : h2.1 = h.1) (hz : h2.2.2 = h.2.2)
    (hl : ch1 d = m1 ++ m2) (b1 : ∀ i ∈ m1, s_lt (T.2.2.2 i) (T.2.2.1 i) nf nl) (b2 : ∀ i, m2.head? = some i → ¬ s_lt (T.2.2.2 i) (T.2.2.1 i) nf nl) (hno : ∀ i ∈ ch1 d, ¬ (T.2.2.1 i = nl ∧ ∀ k, k < nl → T.2.2.2 i k = nf k)) (hA : AD ad h2 h3 (ad d) (ad f) f (ch1 d) (m1 ++ f :: m2)) :
    ∃ ch', CI G h3 x o (T.1, fu T.2.1 f d, fu T.2.2.1 f nl, fn T.2.2.2 f nf) p len hand (some f) false bl ad (fu na f n) ch' ba cp ga gb gc ∧ CFr o h h3 := by
  obtain ⟨hNK, hP, hO, hX, hC, hB⟩ := id hI
  obtain ⟨ht, htk, hca, hln, hcs, hck, hch, hl2, hp⟩ := id hX
  obtain ⟨a1, a2, a3, a4, a5, a6, a7, a8, a9⟩ := id hP
  have hf0 : f ≠ 0 := fun z => by (have h9 := hC.2.2.2.1.2.1; rw [z] at hf1; omega)
  have hff := hC.file hf hf1
  have hdf : d ≠ f := fun z => by (rw [z] at hd2; omega)
  have hd2' : (fu T.1 f 0) d = 2 := (fu_n hdf).trans hd2
  have hdd := hC2.dir hd hd2'
  have hfr : ∀ e, e < 300 → fu T.1 f 0 e ≠ 0 → ad e ≠ ad f := fun e he hl z => by
    by_cases q : e = f
    · rw [q, fu_s] at hl; exact hl rfl
    · rw [fu_n q] at hl
      exact q (hC.2.2.2.2.1 e f he hf hl (by omega) z)
  have hC3 := hC2.add hd hd2' ⟨by omega, hf⟩ fu_s (Or.inl rfl) hE2 (by rw [hk, hff.2]) hn hfr hl b1 b2 hno hA (fun z => by omega)
  rw [show ((fu T.1 f 0, T.2) : TT).1 = fu T.1 f 0 from rfl, show fu (fu T.1 f 0) f 1 = T.1 by (have h9 := fu_two (f := T.1) (e := f) (v := 0); rw [hf1] at h9; exact h9), fu_id] at hC3
  have hT3 : FK (fun b j => (h.1 b).1 = 2 ∨ ((h.1 b).1 = 3 ∧ j ≤ 2)) h h3 := by
    refine hT2.tr ?_
    have h9 := hA.tree hdd.2 hE2.2.1 (fun i hi => (hC2.ens hd hd2' i hi).2.1)
    rw [hk] at h9
    exact h9
  have fx : ∀ j v, h.2.1 x j = v → h3.2.1 x j = v := fun j v q => (hT3.2.2 x j a1.2 (fun z => by omega)).trans q
  refine ⟨_, ⟨hNK.fr hT3, ?_, ⟨fx _ _ hO.1, fun e w1 w2 => by (cases w1; exact ⟨hf, hf1⟩), fun e _ w => by cases w⟩, hX.fk hT3 (fun j => ⟨fun z => by omega, fun z => by (rw [hck] at z; omega)⟩), hC3, (hB.tree hT3).sub (fun e he w => ⟨w, rfl, rfl, rfl⟩)⟩, CFr.tree hNK hT3⟩
  have hz3 := hT3.1
  exact ⟨⟨a1.1, by omega⟩, by rw [hT3.2.1 x a1.2]; exact a2, fx _ _ a3, fx _ _ a4, fx _ _ a5, a6, fx _ _ a7, fx _ _ a8, fx _ _ a9⟩
end MV
