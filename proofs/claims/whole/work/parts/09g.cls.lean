set_option maxHeartbeats 4000000 in
set_option maxRecDepth 100000 in
/-- PathTree.dropBytes -/
theorem k_drop {G : GG} {h : HH} {x a b C N : Nat} {bs : List Nat} {Q : Option Value → HH → Prop} (a1 : g_0 G ≤ x ∧ x < h.2.2) (a2 : (h.1 x).1 = 0) (a9 : h.2.1 x 6 = .int (nI N)) (hB : FB G h a b C bs) (hN : bs.length ≤ N) (hQ : ∀ h', h' = h_put (h_put h x 6 (.int (nI (N - bs.length)))) a 4 (.int (nI 0)) → Q none h') : V G mP_dropBytes 0 (lv_args 0 [.ref x, .ref a]) [] h 0 0 Q := by
  obtain ⟨b1, b2, b3, b4, b5, b6, b7, b8, b9, b10⟩ := id hB
  first | refine V.aload_n dP_dropBytes_0 rfl ?_ | refine V.aload_nN dP_dropBytes_0 rfl ?_
  refine V.dup dP_dropBytes_1 rfl ?_
  refine V.getk dP_dropBytes_2 a1 a2 f_P_39_0 a9 ?_
  first | refine V.aload_n dP_dropBytes_5 rfl ?_ | refine V.aload_nN dP_dropBytes_5 rfl ?_
  refine V.getk dP_dropBytes_6 b1 b2 f_P_82_3 b4 ?_
  refine V.isubN dP_dropBytes_9 (by omega) ?_
  refine V.putk dP_dropBytes_10 a1 a2 p_P_39_0 rfl rfl ?_
  intro h1 e1
  have c1 : g_0 G ≤ a ∧ a < h1.2.2 := by (rw [e1]; exact b1)
  have c2 : (h1.1 a).1 = 3 := by (rw [e1]; exact b2)
  first | refine V.aload_n dP_dropBytes_13 rfl ?_ | refine V.aload_nN dP_dropBytes_13 rfl ?_
  refine V.iconst (v := (nI 0)) dP_dropBytes_14 (by decide) ?_
  refine V.putk dP_dropBytes_15 c1 c2 p_P_82_3 rfl rfl ?_
  intro h2 e2
  refine V.vreturn dP_dropBytes_18 rfl ?_
  exact hQ h2 (by rw [e2, e1])
theorem but_fb (bl : List (Nat × Nat)) (e : Nat) : (s_but bl e).length + (s_fb bl e).length = bl.length := by
  unfold s_but s_fb
  rw [List.length_map]
  induction bl with
  | nil => rfl
  | cons q bl ih =>
    by_cases z : q.2 = e
    · simp [z]; omega
    · simp [z]; omega
section CID
variable {G : GG} {h : HH} {x o : Nat} {T : TT} {p : Nat → Nat} {len hand : Nat} {op : Option Nat} {gone : Bool} {bl : List (Nat × Nat)} {ad na : Nat → Nat} {ch : Nat → List Nat} {ba cp : Nat → Nat} {ga gb gc : Nat} 
/-- a file's bytes are lost -/
theorem CI.drop {h' : HH} {e : Nat} (hI : CI G h x o T p len hand op gone bl ad na ch ba cp ga gb gc) (he : e < 300) (h1 : T.1 e = 1) (e9 : h' = h_put (h_put h x 6 (.int (nI (bl.length - (s_fb bl e).length)))) (ad e) 4 (.int (nI 0))) : CI G h' x o T p len hand op gone (s_but bl e) ad na ch ba cp ga gb gc ∧ CFr o h h' := by
  obtain ⟨hNK, hP, hO, hX, hC, hB⟩ := id hI
  obtain ⟨ht, htk, hca, hln, hcs, hck, hch, hl2, hp⟩ := id hX
  obtain ⟨a1, a2, a3, a4, a5, a6, a7, a8, a9⟩ := id hP
  have hfe := hC.file he h1
  have hxe : x ≠ ad e := fun z => by (rw [← z, a2] at hfe; omega)
  have hF : FK (fun b j => (b = x ∧ j = 6) ∨ (b = ad e ∧ j = 4)) h h' := FK.of (by rw [e9]; rfl) (by rw [e9]; rfl) (fun b j hn => by rw [e9, hp_ne (fun z => hn (Or.inr z)), hp_ne (fun z => hn (Or.inl z))])
  have hkb : ∀ b j, ((b = x ∧ j = 6) ∨ (b = ad e ∧ j = 4)) → ((h.1 b).1 = 0 ∧ j = 6) ∨ ((h.1 b).1 = 3 ∧ j = 4) := fun b j z => by
    rcases z with z | z
    · left; rw [z.1]; exact ⟨a2, z.2⟩
    · right; rw [z.1]; exact ⟨hfe.2, z.2⟩
  have fx : ∀ j v, j ≠ 6 → h.2.1 x j = v → h'.2.1 x j = v := fun j v hj q => (hF.2.2 x j a1.2 (fun z => by omega)).trans q
  have hbf := but_fb bl e
  have hz : h'.2.2 = h.2.2 := by (rw [e9]; rfl)
  have hk : h'.1 = h.1 := by (rw [e9]; rfl)
  refine ⟨⟨hNK.fr hF, ⟨by rw [hz]; exact a1, by rw [hk]; exact a2, fx _ _ (by omega) a3, fx _ _ (by omega) a4, fx _ _ (by omega) a5, a6, fx _ _ (by omega) a7, fx _ _ (by omega) a8, ?_⟩, hO.fk a1.2 hF (fun z => by omega) (fun f w1 w2 => ?_), hX.fk hF (fun j => ⟨fun z => by (have := hkb _ _ z; omega), fun z => by (have := hkb _ _ z; rw [hck] at this; omega)⟩), hC.fk hF (fun b j hb z => by (have := hkb _ _ z; omega)), fun f hf w1 => ?_, hB.2⟩, hF.cfr hNK (fun b j hb z => by (have := hkb _ _ z; omega))⟩
  · rw [e9, hp_a hxe, hp_eq, show bl.length - (s_fb bl e).length = (s_but bl e).length by omega]
  · have g3 := (hO.2.2 f w1 w2).2.2 e he (by omega)
    have g1 := (hO.2.2 f w1 w2).1.2.1
    exact ⟨fun z => by omega, fun z => by omega, fun z => by (rcases z with z | z; omega; exact g3 z.1.symm)⟩
  · by_cases z : f = e
    · subst z
      rw [fb_but_s]
      have hq := (hB.1 f hf w1)
      refine ⟨?_, hq.2⟩
      have h3 : FB G (h_put h x 6 (.int (nI (bl.length - (s_fb bl f).length)))) (ad f) (ba f) (cp f) (s_fb bl f) := hq.1.fr (Nat.le_refl _) (fun _ _ => rfl) (hp_j (by omega)) (hp_j (by omega)) (fun j => hp_a (fun w => by (have := hq.1.2.2.2.2.2.1; rw [w] at this; rw [this] at a2; cases a2)))
      rw [e9]
      exact h3.zero
    · rw [fb_but_n z]
      have hq := (hB.1 f hf w1)
      refine ⟨hq.1.fr hF.1 hF.2.1 (hF.2.2 _ _ hq.1.1.2 (fun w => by omega)) (hF.2.2 _ _ hq.1.1.2 (fun w => ?_)) (fun j => hF.2.2 _ _ hq.1.2.2.2.2.1.2 (fun w => ?_)), hq.2⟩
      · rcases w with w | w
        · omega
        · exact z (hC.2.2.2.2.1 f e hf he (by omega) (by omega) w.1)
      · have := hkb _ _ w
        rw [hq.1.2.2.2.2.2.1] at this
        omega
/-- a removed file has none -/
theorem CI.dropg {h' : HH} {e : Nat} (hI : CI G h x o T p len hand op gone bl ad na ch ba cp ga gb gc) (w1 : op = some e) (w2 : gone = true) (e9 : h' = h_put (h_put h x 6 (.int (nI (bl.length - 0)))) ga 4 (.int (nI 0))) : CI G h' x o T p len hand op gone bl ad na ch ba cp ga gb gc ∧ CFr o h h' := by
  obtain ⟨hNK, hP, hO, hX, hC, hB⟩ := id hI
  obtain ⟨ht, htk, hca, hln, hcs, hck, hch, hl2, hp⟩ := id hX
  obtain ⟨a1, a2, a3, a4, a5, a6, a7, a8, a9⟩ := id hP
  obtain ⟨g1, g2, g3⟩ := hO.2.2 e w1 w2
  have g4 := g1.2.1
  have hxe : x ≠ ga := fun z => by (rw [← z, a2] at g4; omega)
  have hF : FK (fun b j => (b = x ∧ j = 6) ∨ (b = ga ∧ j = 4)) h h' := FK.of (by rw [e9]; rfl) (by rw [e9]; rfl) (fun b j hn => by rw [e9, hp_ne (fun z => hn (Or.inr z)), hp_ne (fun z => hn (Or.inl z))])
  have hkb : ∀ b j, ((b = x ∧ j = 6) ∨ (b = ga ∧ j = 4)) → ((h.1 b).1 = 0 ∧ j = 6) ∨ ((h.1 b).1 = 3 ∧ j = 4) := fun b j z => by
    rcases z with z | z
    · left; rw [z.1]; exact ⟨a2, z.2⟩
    · right; rw [z.1]; exact ⟨g4, z.2⟩
  have fx : ∀ j v, j ≠ 6 → h.2.1 x j = v → h'.2.1 x j = v := fun j v hj q => (hF.2.2 x j a1.2 (fun z => by omega)).trans q
  have hz : h'.2.2 = h.2.2 := by (rw [e9]; rfl)
  have hk : h'.1 = h.1 := by (rw [e9]; rfl)
  refine ⟨⟨hNK.fr hF, ⟨by rw [hz]; exact a1, by rw [hk]; exact a2, fx _ _ (by omega) a3, fx _ _ (by omega) a4, fx _ _ (by omega) a5, a6, fx _ _ (by omega) a7, fx _ _ (by omega) a8, ?_⟩, ⟨fx _ _ (by omega) hO.1, hO.2.1, fun f v1 v2 => ⟨?_, ?_, g3⟩⟩, hX.fk hF (fun j => ⟨fun z => by (have := hkb _ _ z; omega), fun z => by (have := hkb _ _ z; rw [hck] at this; omega)⟩), hC.fk hF (fun b j hb z => by (have := hkb _ _ z; omega)), fun f hf w1 => ?_, hB.2⟩, hF.cfr hNK (fun b j hb z => by (have := hkb _ _ z; omega))⟩
  · rw [e9, hp_a hxe, hp_eq, Nat.sub_zero]
  · have h3 : FB G (h_put h x 6 (.int (nI (bl.length - 0)))) ga gb gc [] := g1.fk0 FK.put (fun z => hxe z.1.symm) (fun z => hxe z.1.symm)
    rw [e9]
    exact h3.zero
  · exact (hF.2.2 _ _ g1.1.2 (fun z => by omega)).trans g2
  · have hq := (hB.1 f hf w1)
    have hne := g3 f hf (by omega)
    refine ⟨hq.1.fr hF.1 hF.2.1 (hF.2.2 _ _ hq.1.1.2 (fun w => by omega)) (hF.2.2 _ _ hq.1.1.2 (fun w => ?_)) (fun j => hF.2.2 _ _ hq.1.2.2.2.2.1.2 (fun w => ?_)), hq.2⟩
    · rcases w with w | w
      · omega
      · exact hne w.1
    · have := hkb _ _ w
      rw [hq.1.2.2.2.2.2.1] at this
      omega
/-- one byte more -/
theorem CI.push {h1 : HH} {e v b C : Nat} (hI : CI G h x o T p len hand op gone bl ad na ch ba cp ga gb gc) (he : e < 300) (w1 : T.1 e = 1) (hF : FK (fun q j => (q = ad e ∧ (j = 3 ∨ j = 4)) ∨ q = ba e) h h1) (hN : FB G h1 (ad e) b C (s_fb bl e ++ [v])) (hb : b = ba e ∨ h.2.2 ≤ b) : CI G (h_put h1 x 6 (.int (nI (bl.length + 1)))) x o T p len hand op gone (bl ++ [(v, e)]) ad na ch (fu ba e b) (fu cp e C) ga gb gc ∧ CFr o h (h_put h1 x 6 (.int (nI (bl.length + 1)))) := by
  obtain ⟨hNK, hP, hO, hX, hC, hB⟩ := id hI
  obtain ⟨ht, htk, hca, hln, hcs, hck, hch, hl2, hp⟩ := id hX
  obtain ⟨a1, a2, a3, a4, a5, a6, a7, a8, a9⟩ := id hP
  have hfe := hC.file he w1
  have hbe := (hB.1 e he w1)
  have hkb : ∀ q j, ((q = ad e ∧ (j = 3 ∨ j = 4)) ∨ q = ba e) → ((h.1 q).1 = 3 ∧ (j = 3 ∨ j = 4)) ∨ ((h.1 q).1 = 102 ∧ q = ba e) := fun q j z => by
    rcases z with z | z
    · left; rw [z.1]; exact ⟨hfe.2, z.2⟩
    · right; rw [z, hbe.1.2.2.2.2.2.1]; exact ⟨rfl, rfl⟩
  have hz := hF.1
  have hkx : (h1.1 x).1 = 0 := by (rw [hF.2.1 x a1.2]; exact a2)
  have fx : ∀ j v, h.2.1 x j = v → h1.2.1 x j = v := fun j v q => (hF.2.2 x j a1.2 (fun z => by (have := hkb _ _ z; omega))).trans q
  have hF2 : FK (fun b j => b = x ∧ j = 6) h1 (h_put h1 x 6 (.int (nI (bl.length + 1)))) := FK.put
  have hNK1 := hNK.fr hF
  have hO1 := hO.fk a1.2 hF (fun z => by (have := hkb _ _ z; omega)) (fun f v1 v2 => by
    have g3 := (hO.2.2 f v1 v2).2.2 e he (by omega)
    have g1 := (hO.2.2 f v1 v2).1.2.1
    exact ⟨fun z => by (have := hkb _ _ z; omega), fun z => by (rcases z with z | z; exact g3 z.1.symm; rw [z, hbe.1.2.2.2.2.2.1] at g1; cases g1), fun z => by (rcases z with z | z; exact g3 z.1.symm; rw [z, hbe.1.2.2.2.2.2.1] at g1; cases g1)⟩)
  have hX1 := hX.fk hF (fun j => ⟨fun z => by (have := hkb _ _ z; omega), fun z => by (have := hkb _ _ z; rw [hck] at this; omega)⟩)
  have hC1 := hC.fk hF (fun b j hb z => by (have := hkb _ _ z; omega))
  have hB1 : CF G h1 o T (bl ++ [(v, e)]) ad (fu ba e b) (fu cp e C) := by
    refine ⟨fun f hf v1 => ?_, fun f g hf hg v1 v2 v3 => ?_⟩
    · by_cases z : f = e
      · subst z
        rw [fu_s, fu_s, fb_app, if_pos rfl]
        refine ⟨hN, ?_⟩
        rcases hb with q | q
        · rw [q]; exact hbe.2
        · have := hNK.1; omega
      · rw [fu_n z, fu_n z, fb_app, if_neg z]
        have hq := (hB.1 f hf v1)
        have hne : ad f ≠ ad e := fun w => z (hC.2.2.2.2.1 f e hf he (by omega) (by omega) w)
        have hk3 := hq.1.2.1
        refine ⟨hq.1.fr hF.1 hF.2.1 (hF.2.2 _ _ hq.1.1.2 (fun w => ?_)) (hF.2.2 _ _ hq.1.1.2 (fun w => ?_)) (fun j => hF.2.2 _ _ hq.1.2.2.2.2.1.2 (fun w => ?_)), hq.2⟩
        · rcases w with w | w
          · exact hne w.1
          · rw [w, hbe.1.2.2.2.2.2.1] at hk3; cases hk3
        · rcases w with w | w
          · exact hne w.1
          · rw [w, hbe.1.2.2.2.2.2.1] at hk3; cases hk3
        · rcases w with w | w
          · have h9 := hq.1.2.2.2.2.2.1
            rw [w.1] at h9
            rw [h9] at hfe
            exact absurd hfe.2 (by show ¬ (102 = 3); decide)
          · exact z (hB.2 f e hf he v1 w1 w)
    · have key : ∀ g, g < 300 → T.1 g = 1 → g ≠ e → ba g ≠ b := fun g hg q1 q2 q3 => by
        rcases hb with q | q
        · exact q2 (hB.2 g e hg he q1 w1 (q3.trans q))
        · have := (hB.1 g hg q1).1.2.2.2.2.1.2; omega
      by_cases z : f = e
      · by_cases q : g = e
        · rw [z, q]
        · rw [z, fu_s, fu_n q] at v3
          exact absurd v3.symm (key g hg v2 q)
      · by_cases q : g = e
        · rw [q, fu_s, fu_n z] at v3
          exact absurd v3 (key f hf v1 z)
        · rw [fu_n z, fu_n q] at v3
          exact hB.2 f g hf hg v1 v2 v3
  refine ⟨⟨hNK1.fr hF2, ⟨⟨a1.1, by show x < h1.2.2; omega⟩, hkx, (hp_j (by omega)).trans (fx _ _ a3), (hp_j (by omega)).trans (fx _ _ a4), (hp_j (by omega)).trans (fx _ _ a5), a6, (hp_j (by omega)).trans (fx _ _ a7), (hp_j (by omega)).trans (fx _ _ a8), by rw [List.length_append, List.length_singleton]; exact hp_eq⟩, hO1.fk (by omega) hF2 (fun z => by omega) (fun f v1 v2 => ?_), hX1.fk hF2 (fun j => ⟨fun z => by omega, fun z => by omega⟩), hC1.fk hF2 (fun b j hb z => by rw [z.1, hkx]; omega), hB1.fk hF2 (fun b j hb z => by rw [z.1, hkx]; omega)⟩, (hF.cfr hNK (fun b j hb z => ?_)).tr (hF2.cfr hNK1 (fun b j hb z => by rw [z.1, hkx]; omega))⟩
  · have h3 := (hO1.2.2 f v1 v2).1.2.1
    exact ⟨fun z => by (rw [z.1, hkx] at h3; omega), fun z => by (rw [z.1, hkx] at h3; omega), fun z => by (rw [z.1, hkx] at h3; omega)⟩
  · have h3 := hkb _ _ z
    have h4 := hbe.2
    rcases h3 with h3 | h3
    · left; omega
    · right; right; exact ⟨h3.1, by rw [h3.2]; exact h4⟩
end CID
set_option maxHeartbeats 4000000 in
set_option maxRecDepth 100000 in
/-- PathTree.empty -/
theorem k_empty {G : GG} {h : HH} {x o : Nat} {T : TT} {p : Nat → Nat} {len hand : Nat} {op : Option Nat} {gone : Bool} {bl : List (Nat × Nat)} {ad na : Nat → Nat} {ch : Nat → List Nat} {ba cp : Nat → Nat} {ga gb gc : Nat} {Q : Option Value → HH → Prop} (hI : CI G h x o T p len hand op gone bl ad na ch ba cp ga gb gc) (q0 : op = none → Q (some (.int (-1))) h) (q1 : ∀ e, op = some e → gone = true → ∀ h', CI G h' x o T p len hand op gone bl ad na ch ba cp ga gb gc → CFr o h h' → Q (some (.int (nI 0))) h') (q2 : ∀ e, op = some e → gone = false → ∀ h', CI G h' x o T p len hand op gone (s_but bl e) ad na ch ba cp ga gb gc → CFr o h h' → Q (some (.int (nI (s_fb bl e).length))) h') : V G mP_empty 0 (lv_args 0 [.ref x]) [] h 0 0 Q := by
  obtain ⟨hNK, hP, hO, hX, hC, hB⟩ := id hI
  obtain ⟨ht, htk, hca, hln, hcs, hck, hch, hl2, hp⟩ := id hX
  obtain ⟨a1, a2, a3, a4, a5, a6, a7, a8, a9⟩ := id hP
  cases hop : op with
  | none =>
    have h3 : h.2.1 x 3 = .null := by (rw [hO.1, hop]; rfl)
    first | refine V.aload_n dP_empty_0 rfl ?_ | refine V.aload_nN dP_empty_0 rfl ?_
    refine V.getk dP_empty_1 a1 a2 f_P_28_0 h3 ?_
    refine V.ifnonnullN dP_empty_4 ?_
    refine V.iconst (v := (-1)) dP_empty_7 (by decide) ?_
    refine V.ireturn dP_empty_8 rfl rfl ?_
    exact q0 hop
  | some e =>
    cases hgo : gone with
    | true =>
      have h3 : h.2.1 x 3 = .ref ga := by (rw [hO.1, hop, hgo]; rfl)
      have hf := (hO.2.2 e hop hgo).1
      first | refine V.aload_n dP_empty_0 rfl ?_ | refine V.aload_nN dP_empty_0 rfl ?_
      refine V.getk dP_empty_1 a1 a2 f_P_28_0 h3 ?_
      refine V.ifnonnull (tgt := 9) dP_empty_4 (by decide) ?_
      first | refine V.aload_n dP_empty_9 rfl ?_ | refine V.aload_nN dP_empty_9 rfl ?_
      refine V.getk dP_empty_10 a1 a2 f_P_28_0 h3 ?_
      refine V.getk dP_empty_13 hf.1 hf.2.1 f_P_82_3 hf.2.2.2.1 ?_
      refine V.istore_n dP_empty_16 (by decide) ?_
      first | refine V.aload_n dP_empty_17 rfl ?_ | refine V.aload_nN dP_empty_17 rfl ?_
      first | refine V.aload_n dP_empty_18 rfl ?_ | refine V.aload_nN dP_empty_18 rfl ?_
      refine V.getk dP_empty_19 a1 a2 f_P_28_0 h3 ?_
      refine V.callVk (kd := 0) 0 _ 0 _ [_] dP_empty_22 okP_dropBytes n_P_83 a1 a2 rfl imP_dropBytes seP_dropBytes_P (by decide) (by decide) rfl rfl (Nat.le_of_ble_eq_true rfl) (Nat.le_of_ble_eq_true rfl) (Nat.le_of_eq (Nat.zero_add _)) (Nat.le_of_eq (Nat.zero_add _)) (k_drop a1 a2 a9 hf (Nat.zero_le _) (fun h9 e9 => ?_))
      refine V.iload_n dP_empty_25 rfl ?_
      refine V.ireturn dP_empty_26 rfl rfl ?_
      obtain ⟨hI9, hF9⟩ := hI.dropg hop hgo e9
      exact q1 e hop hgo h9 hI9 hF9
    | false =>
      have h3 : h.2.1 x 3 = .ref (ad e) := by (rw [hO.1, hop, hgo]; rfl)
      obtain ⟨he, h1⟩ := hO.2.1 e hop hgo
      have hf := (hB.1 e he h1).1
      have hfl := fb_le bl e
      first | refine V.aload_n dP_empty_0 rfl ?_ | refine V.aload_nN dP_empty_0 rfl ?_
      refine V.getk dP_empty_1 a1 a2 f_P_28_0 h3 ?_
      refine V.ifnonnull (tgt := 9) dP_empty_4 (by decide) ?_
      first | refine V.aload_n dP_empty_9 rfl ?_ | refine V.aload_nN dP_empty_9 rfl ?_
      refine V.getk dP_empty_10 a1 a2 f_P_28_0 h3 ?_
      refine V.getk dP_empty_13 hf.1 hf.2.1 f_P_82_3 hf.2.2.2.1 ?_
      refine V.istore_n dP_empty_16 (by decide) ?_
      first | refine V.aload_n dP_empty_17 rfl ?_ | refine V.aload_nN dP_empty_17 rfl ?_
      first | refine V.aload_n dP_empty_18 rfl ?_ | refine V.aload_nN dP_empty_18 rfl ?_
      refine V.getk dP_empty_19 a1 a2 f_P_28_0 h3 ?_
      refine V.callVk (kd := 0) 0 _ 0 _ [_] dP_empty_22 okP_dropBytes n_P_83 a1 a2 rfl imP_dropBytes seP_dropBytes_P (by decide) (by decide) rfl rfl (Nat.le_of_ble_eq_true rfl) (Nat.le_of_ble_eq_true rfl) (Nat.le_of_eq (Nat.zero_add _)) (Nat.le_of_eq (Nat.zero_add _)) (k_drop a1 a2 a9 hf hfl (fun h9 e9 => ?_))
      refine V.iload_n dP_empty_25 rfl ?_
      refine V.ireturn dP_empty_26 rfl rfl ?_
      obtain ⟨hI9, hF9⟩ := hI.drop he h1 e9
      exact q2 e hop hgo h9 hI9 hF9
