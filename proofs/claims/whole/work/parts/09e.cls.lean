section VNK
variable {G : GG} {i : MM} {pc : Nat} {lv : List (Nat × Value)} {st : List Value} {h : HH} {c s : Nat} {Q : Option Value → HH → Prop}
theorem V.newk {idx kd N c2 s2 q : Nat} {f : Nat → Value} (hd : decode (m_C i) pc = .ok (.new idx, 3)) (hf : w_ok (m_Y i).cls idx kd N f) (hc : c2 + 1 ≤ c) (hs : s2 + N ≤ s) (hq : h.2.2 = q) (kk : ∀ h', h' = h_new h kd N f → h'.2.2 = q + 1 → V G i (pc + 3) lv (.ref q :: st) h' c2 s2 Q) : V G i pc lv st h c s Q := by
  subst hq
  exact V.new hd hf hc hs (kk _ rfl rfl)
end VNK
section CIA
variable {G : GG} {h : HH} {x o : Nat} {T : TT} {p : Nat → Nat} {len hand : Nat} {op : Option Nat} {gone : Bool} {bl : List (Nat × Nat)} {ad na : Nat → Nat} {ch : Nat → List Nat} {ba cp : Nat → Nat} {ga gb gc : Nat} 
theorem FK.new {kd n : Nat} {f : Nat → Value} : FK (fun _ _ => False) h (h_new h kd n f) :=
  ⟨Nat.le_succ _, fun b hb => hn_kn (by omega), fun b j hb _ => hn_fn (by omega)⟩
theorem NC.fk {h' : HH} {q : Nat → Nat} {f n : Nat} (hN : NC h h' q f n) : FK (fun _ _ => False) h h' := ⟨by rw [hN.1]; exact Nat.le_succ _, fun b hb => (hN.2.2.2 b hb).1, fun b j hb _ => (hN.2.2.2 b hb).2 j⟩
/-- what is new lies behind all -/
theorem FK.aft {S : Nat → Nat → Prop} {h0 h1 h2 : HH} (a : FK (fun _ _ => False) h0 h1) (b : FK S h1 h2) (hS : ∀ b j, S b j → h0.2.2 ≤ b) : FK (fun _ _ => False) h0 h2 :=
  ⟨Nat.le_trans a.1 b.1, fun x hx => (b.2.1 x (Nat.lt_of_lt_of_le hx a.1)).trans (a.2.1 x hx), fun x j hx _ => (b.2.2 x j (Nat.lt_of_lt_of_le hx a.1) (fun z => absurd (hS x j z) (by omega))).trans (a.2.2 x j hx (fun z => z))⟩
theorem CI.fk0 {h' : HH} (hI : CI G h x o T p len hand op gone bl ad na ch ba cp ga gb gc) (hF : FK (fun _ _ => False) h h') : CI G h' x o T p len hand op gone bl ad na ch ba cp ga gb gc := by
  obtain ⟨hNK, hP, hO, hX, hC, hB⟩ := id hI
  obtain ⟨ht, htk, hca, hln, hcs, hck, hch, hl2, hp⟩ := id hX
  obtain ⟨a1, a2, a3, a4, a5, a6, a7, a8, a9⟩ := id hP
  exact ⟨hNK.fr hF, hP.fk hF (fun _ z => z), hO.fk a1.2 hF (fun z => z) (fun _ _ _ => ⟨fun z => z, fun z => z, fun z => z⟩), hX.fk hF (fun _ => ⟨fun z => z, fun z => z⟩), hC.fk hF (fun _ _ _ z => z.elim), hB.fk hF (fun _ _ _ z => z.elim)⟩
theorem AD.tree {h' : HH} {d a y : Nat} {l l' : List Nat} (hA : AD ad h h' d a y l l') (hd : (h.1 d).1 = 2) (ha : (h.1 a).1 = 2 ∨ (h.1 a).1 = 3) (hN : ∀ i ∈ l, (h.1 (ad i)).1 = 2 ∨ (h.1 (ad i)).1 = 3) : FK (fun b j => (h.1 b).1 = 2 ∨ ((h.1 b).1 = 3 ∧ j ≤ 2)) h h' :=
  hA.fk.mono (fun b j hb z => by
    rcases z with z | z | ⟨i, hi, z⟩
    · left; rw [z.1]; exact hd
    · rw [z.1]; omega
    · have := hN i hi; rw [z.1]; omega)
theorem RL.tree {h' : HH} {d y : Nat} {l l' : List Nat} (hA : RL ad h h' d y l l') (hd : (h.1 d).1 = 2) (ha : (h.1 (ad y)).1 = 2 ∨ (h.1 (ad y)).1 = 3) (hN : ∀ i ∈ l, (h.1 (ad i)).1 = 2 ∨ (h.1 (ad i)).1 = 3) : FK (fun b j => (h.1 b).1 = 2 ∨ ((h.1 b).1 = 3 ∧ j ≤ 2)) h h' :=
  hA.fk.mono (fun b j hb z => by
    rcases z with z | z | ⟨i, hi, z⟩
    · left; rw [z.1]; exact hd
    · rw [z.1]; omega
    · have := hN i hi; rw [z.1]; omega)
theorem CF.tree {h' : HH} (hB : CF G h o T bl ad ba cp) (hF : FK (fun b j => (h.1 b).1 = 2 ∨ ((h.1 b).1 = 3 ∧ j ≤ 2)) h h') : CF G h' o T bl ad ba cp := hB.fk hF (fun b j hb z => by omega)
theorem CFr.tree {h' : HH} (hN : NK o h) (hF : FK (fun b j => (h.1 b).1 = 2 ∨ ((h.1 b).1 = 3 ∧ j ≤ 2)) h h') : CFr o h h' := hF.cfr hN (fun b j hb z => by omega)
/-- bytes of one more file -/
theorem CF.add {y a b C : Nat} {T' : TT} (hB : CF G h o T bl ad ba cp) (hT : T'.1 = fu T.1 y 1) (hF : FB G h a b C (s_fb bl y)) (hb : b ≠ o + 7) (hbn : ∀ e, e < 300 → T.1 e = 1 → e ≠ y → ba e ≠ b) : CF G h o T' bl (fu ad y a) (fu ba y b) (fu cp y C) := by
  refine ⟨fun e he h1 => ?_, fun e f he hf h1 h2 h3 => ?_⟩
  · rw [hT] at h1
    by_cases z : e = y
    · subst z; rw [fu_s, fu_s, fu_s]; exact ⟨hF, hb⟩
    · rw [fu_n z] at h1; rw [fu_n z, fu_n z, fu_n z]; exact hB.1 e he h1
  · rw [hT] at h1 h2
    by_cases z : e = y
    · by_cases q : f = y
      · rw [z, q]
      · rw [fu_n q] at h2
        rw [z, fu_s, fu_n q] at h3
        exact absurd h3.symm (hbn f hf h2 q)
    · rw [fu_n z] at h1
      by_cases q : f = y
      · rw [q, fu_s, fu_n z] at h3
        exact absurd h3 (hbn e he h1 z)
      · rw [fu_n q] at h2
        rw [fu_n z, fu_n q] at h3
        exact hB.2 e f he hf h1 h2 h3
theorem CF.sub {T' : TT} {ad' ba' cp' : Nat → Nat} (hB : CF G h o T bl ad ba cp) (hT : ∀ e, e < 300 → T'.1 e = 1 → T.1 e = 1 ∧ ad' e = ad e ∧ ba' e = ba e ∧ cp' e = cp e) : CF G h o T' bl ad' ba' cp' := by
  refine ⟨fun e he h1 => ?_, fun e f he hf h1 h2 h3 => ?_⟩
  · obtain ⟨q1, q2, q3, q4⟩ := hT e he h1
    rw [q2, q3, q4]
    exact hB.1 e he q1
  · obtain ⟨q1, q2, q3, q4⟩ := hT e he h1
    obtain ⟨r1, r2, r3, r4⟩ := hT f hf h2
    rw [q3, r3] at h3
    exact hB.2 e f he hf q1 r1 h3
/-- an entry made new, and counted -/
theorem CI.add {h' : HH} {d a n y w b : Nat} {l1 l2 : List Nat} (hI : CI G h x o T p len hand op gone bl ad na ch ba cp ga gb gc) (hd : d < 300) (hd2 : T.1 d = 2) (hy : 1 ≤ y ∧ y < 300) (hy0 : T.1 y = 0) (hw : w = 1 ∨ w = 2) (hE : EN G h a n (len - s_last p len) (fun k => p (s_last p len + k))) (hka : (h.1 a).1 + w = 4) (hn : n ≠ x + 2) (ha : ∀ e, e < 300 → T.1 e ≠ 0 → ad e ≠ a) (hag : ∀ e, op = some e → gone = true → ga ≠ a)
    (hl : ch d = l1 ++ l2) (h1 : ∀ i ∈ l1, s_lt (T.2.2.2 i) (T.2.2.1 i) (fun k => p (s_last p len + k)) (len - s_last p len)) (h2 : ∀ i, l2.head? = some i → ¬ s_lt (T.2.2.2 i) (T.2.2.1 i) (fun k => p (s_last p len + k)) (len - s_last p len)) (hno : s_ent T p d (s_last p len) len = none) (hA : AD ad h h' (ad d) a y (ch d) (l1 ++ y :: l2)) (hw2 : w = 2 → h.2.1 a 3 = .null ∧ h.2.1 a 4 = .int (nI 0)) (hbk : ∀ q ∈ bl, T.1 q.2 ≠ 0)
    (hw1 : w = 1 → FB G h a b 16 [] ∧ b ≠ o + 7 ∧ ∀ e, e < 300 → T.1 e = 1 → ba e ≠ b) :
    CI G (h_put h' x (3 + w) (.int (nI (s_cnt (fun e => decide (T.1 e = w)) 300 + 1)))) x o (s_new T y w d p len) p len hand op gone bl (fu ad y a) (fu na y n) (fun e => if e = d then l1 ++ y :: l2 else if e = y then [] else ch e) (fu ba y b) (fu cp y 16) ga gb gc ∧ CFr o h (h_put h' x (3 + w) (.int (nI (s_cnt (fun e => decide (T.1 e = w)) 300 + 1)))) := by
  obtain ⟨hNK, hP, hO, hX, hC, hB⟩ := id hI
  obtain ⟨ht, htk, hca, hln, hcs, hck, hch, hl2, hp⟩ := id hX
  obtain ⟨a1, a2, a3, a4, a5, a6, a7, a8, a9⟩ := id hP
  have hdd := hC.dir hd hd2
  have hT := hA.tree hdd.2 hE.2.1 (fun i hi => (hC.ens hd hd2 i hi).2.1)
  have hz : h'.2.2 = h.2.2 := hA.2.1
  have hk : h'.1 = h.1 := hA.1
  have hC' := hC.add hd hd2 hy hy0 hw hE hka hn ha hl h1 h2 (fun i hi q => by
    have hm := (hC.mem hd hd2).mp hi
    exact s_ent_none' hno i hm.2.1 ⟨⟨hm.1, hm.2.2.1, hm.2.2.2, q.1⟩, q.2⟩) hA hw2
  have hNK' := hNK.fr hT
  have hX' := hX.fk hT (fun j => ⟨fun z => by omega, fun z => by (rw [hck] at z; omega)⟩)
  have hfx : ∀ j v, h.2.1 x j = v → h'.2.1 x j = v := fun j v e => (hT.2.2 x j a1.2 (fun z => by omega)).trans e
  have hnh : hand ≠ y := fun z => by (rw [z] at a6; omega)
  have hB' := hB.tree hT
  have hB2 : CF G h' o (s_new T y w d p len) bl (fu ad y a) (fu ba y b) (fu cp y 16) := by
    rcases hw with hw | hw
    · subst hw
      obtain ⟨w1, w2, w3⟩ := hw1 rfl
      have hfy : s_fb bl y = [] := fb_none (fun q hq z => hbk q hq (by rw [z]; exact hy0))
      refine hB'.add rfl ?_ w2 (fun e he h1 _ => w3 e he h1)
      rw [hfy]
      have hab : a ≠ ad d := fun z => ha d hd (by omega) z.symm
      exact w1.fk0 hA.fk (fun z => by (rcases z with z | z | ⟨i, hi, z⟩ <;> omega)) (fun z => by (rcases z with z | z | ⟨i, hi, z⟩ <;> omega))
    · subst hw
      refine hB'.sub (fun e he h1 => ?_)
      have h1 : fu T.1 y 2 e = 1 := h1
      have z : e ≠ y := fun z => by (rw [z, fu_s] at h1; omega)
      rw [fu_n z] at h1
      exact ⟨h1, fu_n z, fu_n z, fu_n z⟩
  have hO' : CO G h' x (s_new T y w d p len) op gone (fu ad y a) ga gb gc := by
    refine ⟨(hfx 3 _ hO.1).trans ?_, fun e h1 h2 => ?_, fun e h1 h2 => ?_⟩
    · cases op with
      | none => rfl
      | some e =>
        cases gone with
        | true => rfl
        | false =>
          have h3 := hO.2.1 e rfl rfl
          show va_rf (some (ad e)) = va_rf (some (fu ad y a e))
          rw [fu_n (fun z => by (rw [z] at h3; omega))]
    · have h3 := hO.2.1 e h1 h2
      have z : e ≠ y := fun z => by (rw [z] at h3; omega)
      exact ⟨h3.1, (fu_n z).trans h3.2⟩
    · obtain ⟨g1, g2, g3⟩ := hO.2.2 e h1 h2
      have hga := hag e h1 h2
      have gk := g1.2.1
      refine ⟨g1.fk0 hA.fk (fun z => ?_) (fun z => ?_), (hA.fk.2.2 _ _ g1.1.2 (fun z => ?_)).trans g2, fun f hf hlf => ?_⟩
      · rcases z with z | z | ⟨i, hi, z⟩
        · rw [z.1] at gk; omega
        · omega
        · omega
      · rcases z with z | z | ⟨i, hi, z⟩
        · rw [z.1] at gk; omega
        · omega
        · omega
      · rcases z with z | z | ⟨i, hi, z⟩
        · omega
        · exact hga z.1
        · omega
      · have hlf : fu T.1 y w f ≠ 0 := hlf
        by_cases z : f = y
        · rw [z, fu_s]; exact fun q => hga q.symm
        · rw [fu_n z] at hlf ⊢; exact g3 f hf hlf
  have hF2 : FK (fun b j => b = x ∧ j = 3 + w) h' (h_put h' x (3 + w) (.int (nI (s_cnt (fun e => decide (T.1 e = w)) 300 + 1)))) := FK.put
  have hkx : (h'.1 x).1 = 0 := by (rw [hk]; exact a2)
  refine ⟨⟨hNK'.fr hF2, ⟨by rw [hp_z, hz]; exact a1, hkx, (hp_j (by omega)).trans (hfx _ _ a3), (hp_j (by omega)).trans ((hfx _ _ a4).trans (by rw [fu_n (by omega)])), (hp_j (by omega)).trans ((hfx _ _ a5).trans (by rw [fu_n hnh])), ⟨a6.1, (fu_n hnh).trans a6.2⟩, ?_, ?_, (hp_j (by omega)).trans (hfx _ _ a9)⟩, hO'.fk (by rw [hz]; exact a1.2) hF2 (fun z => by omega) (fun e h1 h2 => ?_), hX'.fk hF2 (fun j => ⟨fun z => by omega, fun z => by omega⟩), hC'.fk hF2 (fun b j hb z => by rw [z.1, hkx]; omega), hB2.fk hF2 (fun b j hb z => by rw [z.1, hkx]; omega)⟩, (CFr.tree hNK hT).tr (hF2.cfr hNK' (fun b j hb z => by rw [z.1, hkx]; omega))⟩
  · show _ = Value.int (nI (s_cnt (fun e => decide (fu T.1 y w e = 1)) 300))
    rcases hw with hw | hw
    · subst hw
      rw [hp_eq, s_cnt_up (f := fun e => decide (T.1 e = 1)) (g := fun e => decide (fu T.1 y 1 e = 1)) (y := y) (by simp [hy0]) (by simp [fu_s]) (fun e he => by simp [fu_n he]) hy.2]
    · subst hw
      rw [hp_j (by omega), hfx _ _ a7, s_cnt_congr (f := fun e => decide (T.1 e = 1)) (g := fun e => decide (fu T.1 y 2 e = 1))]
      intro e he
      by_cases z : e = y
      · subst z; simp [fu_s, hy0]
      · simp [fu_n z]
  · show _ = Value.int (nI (s_cnt (fun e => decide (fu T.1 y w e = 2)) 300))
    rcases hw with hw | hw
    · subst hw
      rw [hp_j (by omega), hfx _ _ a8, s_cnt_congr (f := fun e => decide (T.1 e = 2)) (g := fun e => decide (fu T.1 y 1 e = 2))]
      intro e he
      by_cases z : e = y
      · subst z; simp [fu_s, hy0]
      · simp [fu_n z]
    · subst hw
      rw [hp_eq, s_cnt_up (f := fun e => decide (T.1 e = 2)) (g := fun e => decide (fu T.1 y 2 e = 2)) (y := y) (by simp [hy0]) (by simp [fu_s]) (fun e he => by simp [fu_n he]) hy.2]
  · have h3 := (hO'.2.2 e h1 h2).1.2.1
    exact ⟨fun z => by (rw [z.1, hkx] at h3; omega), fun z => by (rw [z.1, hkx] at h3; omega), fun z => by (rw [z.1, hkx] at h3; omega)⟩
end CIA
