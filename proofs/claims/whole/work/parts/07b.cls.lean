theorem EN.cs {G : GG} {h : HH} {a n nl : Nat} {nf : Nat → Nat} (hE : EN G h a n nl nf) : CS G h n nl nf 0 nl := by
  obtain ⟨ha, hka, hna, hn, hkn, hnl, hnf, hnf2⟩ := hE
  exact ⟨hn, hkn, by omega, Nat.zero_le _, Nat.le_refl _, fun j _ hj => hnf j hj, fun j _ hj => hnf2 j hj⟩
theorem EN.fr {G : GG} {h h' : HH} {a n nl : Nat} {nf : Nat → Nat} (hE : EN G h a n nl nf) (h1 : h'.1 = h.1) (h2 : h'.2.2 = h.2.2) (h3 : h'.2.1 a 0 = h.2.1 a 0) (h4 : ∀ k, h'.2.1 n k = h.2.1 n k) : EN G h' a n nl nf := by
  obtain ⟨ha, hka, hna, hn, hkn, hnl, hnf, hnf2⟩ := hE
  exact ⟨by rw [h2]; exact ha, by rw [h1]; exact hka, by rw [h3]; exact hna, by rw [h2]; exact hn, by rw [h1]; exact hkn, hnl, fun k hk => by rw [h4]; exact hnf k hk, hnf2⟩
theorem lnk_congr {ad : Nat → Nat} {h h' : HH} : ∀ {l : List Nat} {v : Value}, (∀ x ∈ l, h'.2.1 (ad x) 2 = h.2.1 (ad x) 2) → lnk ad h v l → lnk ad h' v l
  | [], _, _, hl => hl
  | x :: l, v, he, hl => ⟨hl.1, by rw [he x List.mem_cons_self]; exact lnk_congr (fun y hy => he y (List.mem_cons_of_mem _ hy)) hl.2⟩
theorem lnk_ad {ad ad' : Nat → Nat} {h : HH} : ∀ {l : List Nat} {v : Value}, (∀ x ∈ l, ad' x = ad x) → lnk ad h v l → lnk ad' h v l
  | [], _, _, hl => hl
  | x :: l, v, he, hl => ⟨by rw [he x List.mem_cons_self]; exact hl.1, by rw [he x List.mem_cons_self]; exact lnk_ad (fun y hy => he y (List.mem_cons_of_mem _ hy)) hl.2⟩
/-- the reference behind the last of l0 ++ [b] -/
theorem lnk_mid {ad : Nat → Nat} {h : HH} : ∀ {l0 : List Nat} {v : Value} {b : Nat} {l2 : List Nat}, lnk ad h v (l0 ++ b :: l2) → lnk ad h (h.2.1 (ad b) 2) l2
  | [], _, _, _, hl => hl.2
  | _ :: l0, _, _, _, hl => lnk_mid (l0 := l0) hl.2
theorem lnk_cut {ad : Nat → Nat} {h h' : HH} : ∀ {l0 : List Nat} {v : Value} {b : Nat} {l2 m : List Nat}, lnk ad h v (l0 ++ b :: l2) → (∀ x ∈ l0, h'.2.1 (ad x) 2 = h.2.1 (ad x) 2) → lnk ad h' (h'.2.1 (ad b) 2) m → lnk ad h' v (l0 ++ b :: m)
  | [], _, _, _, _, hl, _, hm => ⟨hl.1, hm⟩
  | x :: l0, v, b, l2, m, hl, he, hm => ⟨hl.1, by rw [he x List.mem_cons_self]; exact lnk_cut (l0 := l0) hl.2 (fun y hy => he y (List.mem_cons_of_mem _ hy)) hm⟩
/-- what a store into an entry or a directory leaves -/
theorem h_frz {h : HH} {a k : Nat} {v : Value} : (h_put h a k v).1 = h.1 ∧ (h_put h a k v).2.2 = h.2.2 := ⟨rfl, rfl⟩
set_option maxHeartbeats 4000000 in
set_option maxRecDepth 100000 in
/-- Directory.link -/
theorem k_link0 {G : GG} {h : HH} {d : Nat} {r : Option Nat} {Q : Option Value → HH → Prop} (hd : (g_0 G ≤ d ∧ d < h.2.2) ∧ (h.1 d).1 = 2) (hQ : ∀ h', h' = h_put h d 3 (va_rf r) → Q none h') : V G mD_link 0 (lv_args 0 [.ref d, .null, va_rf r]) [] h 0 0 Q := by
  cases r with
  | none =>
    show V G mD_link 0 (lv_args 0 [.ref d, .null, .null]) [] h 0 0 Q
    first | refine V.aload_n dD_link_0 rfl ?_ | refine V.aload_nN dD_link_0 rfl ?_
    refine V.ifnonnullN dD_link_1 ?_
    first | refine V.aload_n dD_link_4 rfl ?_ | refine V.aload_nN dD_link_4 rfl ?_
    first | refine V.aload_n dD_link_5 rfl ?_ | refine V.aload_nN dD_link_5 rfl ?_
    refine V.putk dD_link_6 hd.1 hd.2 p_D_7_2 rfl rfl ?_
    intro h2 e2
    refine V.goto (tgt := 17) dD_link_9 (by decide) ?_
    refine V.vreturn dD_link_17 rfl ?_
    exact hQ h2 e2
  | some e =>
    show V G mD_link 0 (lv_args 0 [.ref d, .null, .ref e]) [] h 0 0 Q
    first | refine V.aload_n dD_link_0 rfl ?_ | refine V.aload_nN dD_link_0 rfl ?_
    refine V.ifnonnullN dD_link_1 ?_
    first | refine V.aload_n dD_link_4 rfl ?_ | refine V.aload_nN dD_link_4 rfl ?_
    first | refine V.aload_n dD_link_5 rfl ?_ | refine V.aload_nN dD_link_5 rfl ?_
    refine V.putk dD_link_6 hd.1 hd.2 p_D_7_2 rfl rfl ?_
    intro h2 e2
    refine V.goto (tgt := 17) dD_link_9 (by decide) ?_
    refine V.vreturn dD_link_17 rfl ?_
    exact hQ h2 e2
set_option maxHeartbeats 4000000 in
set_option maxRecDepth 100000 in
/-- Directory.link -/
theorem k_link1 {G : GG} {h : HH} {d b : Nat} {r : Option Nat} {Q : Option Value → HH → Prop} (hd : (g_0 G ≤ d ∧ d < h.2.2) ∧ (h.1 d).1 = 2) (hb : (g_0 G ≤ b ∧ b < h.2.2) ∧ ((h.1 b).1 = 2 ∨ (h.1 b).1 = 3)) (hQ : ∀ h', h' = h_put h b 2 (va_rf r) → Q none h') : V G mD_link 0 (lv_args 0 [.ref d, .ref b, va_rf r]) [] h 0 0 Q := by
  cases r with
  | none =>
    show V G mD_link 0 (lv_args 0 [.ref d, .ref b, .null]) [] h 0 0 Q
    first | refine V.aload_n dD_link_0 rfl ?_ | refine V.aload_nN dD_link_0 rfl ?_
    refine V.ifnonnull (tgt := 12) dD_link_1 (by decide) ?_
    first | refine V.aload_n dD_link_12 rfl ?_ | refine V.aload_nN dD_link_12 rfl ?_
    first | refine V.aload_n dD_link_13 rfl ?_ | refine V.aload_nN dD_link_13 rfl ?_
    refine V.putk dD_link_14 hb.1 rfl (pE p_D_21_2 p_D_21_3 hb.2) rfl rfl ?_
    intro h2 e2
    refine V.vreturn dD_link_17 rfl ?_
    exact hQ h2 e2
  | some e =>
    show V G mD_link 0 (lv_args 0 [.ref d, .ref b, .ref e]) [] h 0 0 Q
    first | refine V.aload_n dD_link_0 rfl ?_ | refine V.aload_nN dD_link_0 rfl ?_
    refine V.ifnonnull (tgt := 12) dD_link_1 (by decide) ?_
    first | refine V.aload_n dD_link_12 rfl ?_ | refine V.aload_nN dD_link_12 rfl ?_
    first | refine V.aload_n dD_link_13 rfl ?_ | refine V.aload_nN dD_link_13 rfl ?_
    refine V.putk dD_link_14 hb.1 rfl (pE p_D_21_2 p_D_21_3 hb.2) rfl rfl ?_
    intro h2 e2
    refine V.vreturn dD_link_17 rfl ?_
    exact hQ h2 e2
/-- an entry a, of number y, comes into the chain l of directory d: what changes -/
def AD (ad : Nat → Nat) (h h' : HH) (d a y : Nat) (l l' : List Nat) : Prop := h'.1 = h.1 ∧ h'.2.2 = h.2.2 ∧ lnk (fu ad y a) h' (h'.2.1 d 3) l' ∧ h'.2.1 d 4 = .int (nI (l.length + 1)) ∧ h'.2.1 a 1 = .ref d ∧
  ∀ b j, ¬ (b = d ∧ (j = 3 ∨ j = 4)) → ¬ (b = a ∧ (j = 1 ∨ j = 2)) → (∀ x ∈ l, ¬ (b = ad x ∧ j = 2)) → h'.2.1 b j = h.2.1 b j
theorem AD.of0 {ad : Nat → Nat} {h h' : HH} {d a y : Nat} {l : List Nat} {v : Value} (hl : lnk ad h v l) (hy : y ∉ l) (hda : d ≠ a) (hx : ∀ x ∈ l, ad x ≠ a ∧ ad x ≠ d)
    (e : h' = h_put (h_put (h_put (h_put h d 3 (.ref a)) a 2 v) a 1 (.ref d)) d 4 (.int (nI (l.length + 1)))) : AD ad h h' d a y l (y :: l) := by
  have had : a ≠ d := fun z => hda z.symm
  have e3 : h'.2.1 d 3 = .ref a := by rw [e, hp_j (by omega), hp_a hda, hp_a hda]; exact hp_eq
  have e2 : h'.2.1 a 2 = v := by rw [e, hp_a had, hp_j (by omega)]; exact hp_eq
  refine ⟨by rw [e]; rfl, by rw [e]; rfl, ⟨?_, ?_⟩, by rw [e]; exact hp_eq, by rw [e, hp_a had]; exact hp_eq, fun b j h1 h2 h3 => ?_⟩
  · rw [e3, fu_s]
  · rw [fu_s, e2]
    refine lnk_ad (ad := ad) (fun x hx2 => fu_n (fun z => hy (by rw [← z]; exact hx2))) (lnk_congr (h := h) (fun x hx2 => ?_) hl)
    rw [e, hp_a (hx x hx2).2, hp_a (hx x hx2).1, hp_a (hx x hx2).1, hp_a (hx x hx2).2]
  · rw [e, hp_ne (fun z => h1 ⟨z.1, Or.inr z.2⟩), hp_ne (fun z => h2 ⟨z.1, Or.inl z.2⟩), hp_ne (fun z => h2 ⟨z.1, Or.inr z.2⟩), hp_ne (fun z => h1 ⟨z.1, Or.inl z.2⟩)]
theorem AD.of1 {ad : Nat → Nat} {h h' : HH} {d a y x0 : Nat} {l0 l2 : List Nat} {v : Value} (hl : lnk ad h (h.2.1 d 3) (l0 ++ x0 :: l2)) (hv : h.2.1 (ad x0) 2 = v) (hy : y ∉ l0 ++ x0 :: l2) (hda : d ≠ a) (hx : ∀ x ∈ l0 ++ x0 :: l2, ad x ≠ a ∧ ad x ≠ d) (hi : ∀ x ∈ l0 ++ l2, ad x ≠ ad x0)
    (e : h' = h_put (h_put (h_put (h_put h (ad x0) 2 (.ref a)) a 2 v) a 1 (.ref d)) d 4 (.int (nI ((l0 ++ x0 :: l2).length + 1)))) : AD ad h h' d a y (l0 ++ x0 :: l2) (l0 ++ x0 :: y :: l2) := by
  have had : a ≠ d := fun z => hda z.symm
  have hm0 : x0 ∈ l0 ++ x0 :: l2 := List.mem_append_right _ List.mem_cons_self
  have e3 : h'.2.1 d 3 = h.2.1 d 3 := by rw [e, hp_j (by omega), hp_a hda, hp_a hda, hp_a (fun z => (hx x0 hm0).2 z.symm)]
  have e2 : h'.2.1 a 2 = v := by rw [e, hp_a had, hp_j (by omega)]; exact hp_eq
  have e0 : h'.2.1 (ad x0) 2 = .ref a := by rw [e, hp_a (hx x0 hm0).2, hp_a (hx x0 hm0).1, hp_a (hx x0 hm0).1]; exact hp_eq
  have eo : ∀ x ∈ l0 ++ l2, h'.2.1 (ad x) 2 = h.2.1 (ad x) 2 := fun x hx2 => by
    have hm : x ∈ l0 ++ x0 :: l2 := (List.mem_append.mp hx2).elim (fun z => List.mem_append_left _ z) (fun z => List.mem_append_right _ (List.mem_cons_of_mem _ z))
    rw [e, hp_a (hx x hm).2, hp_a (hx x hm).1, hp_a (hx x hm).1, hp_a (hi x hx2)]
  have hne : ∀ x ∈ l0 ++ x0 :: l2, fu ad y a x = ad x := fun x hx2 => fu_n (fun z => hy (by rw [← z]; exact hx2))
  refine ⟨by rw [e]; rfl, by rw [e]; rfl, ?_, by rw [e]; exact hp_eq, by rw [e, hp_a had]; exact hp_eq, fun b j h1 h2 h3 => ?_⟩
  · rw [e3]
    have hl9 := lnk_ad (ad' := fu ad y a) hne hl
    refine lnk_cut (h := h) (l2 := l2) hl9 (fun x hx2 => ?_) ?_
    · rw [hne x (List.mem_append_left _ hx2)]; exact eo x (List.mem_append_left _ hx2)
    · rw [hne x0 hm0, e0]
      refine ⟨by rw [fu_s], ?_⟩
      rw [fu_s, e2, ← hv]
      exact lnk_ad (ad := ad) (fun x hx2 => hne x (List.mem_append_right _ (List.mem_cons_of_mem _ hx2))) (lnk_congr (h := h) (fun x hx2 => eo x (List.mem_append_right _ hx2)) (lnk_mid hl))
  · rw [e, hp_ne (fun z => h1 ⟨z.1, Or.inr z.2⟩), hp_ne (fun z => h2 ⟨z.1, Or.inl z.2⟩), hp_ne (fun z => h2 ⟨z.1, Or.inr z.2⟩), hp_ne (fun z => h3 x0 hm0 z)]
set_option maxHeartbeats 4000000 in
set_option maxRecDepth 100000 in
/-- Directory: an entry comes in -/
theorem k_admit {G : GG} {h : HH} {d a n nl y : Nat} {nf : Nat → Nat} {ad na ns : Nat → Nat} {nm : Nat → Nat → Nat} {l : List Nat} {Q : Option Value → HH → Prop} (hd : (g_0 G ≤ d ∧ d < h.2.2) ∧ (h.1 d).1 = 2) (hl : lnk ad h (h.2.1 d 3) l) (hz : h.2.1 d 4 = .int (nI l.length)) (hl3 : l.length ≤ 300) (hN : ∀ x ∈ l, EN G h (ad x) (na x) (ns x) (nm x)) (hE : EN G h a n nl nf) (hda : d ≠ a) (hx : ∀ x ∈ l, ad x ≠ a ∧ ad x ≠ d) (hi : ∀ x ∈ l, ∀ z ∈ l, ad x = ad z → x = z) (hnd : l.Nodup) (hy : y ∉ l) (hQ : ∀ l1 l2, l = l1 ++ l2 → (∀ x ∈ l1, s_lt (nm x) (ns x) nf nl) → (∀ x, l2.head? = some x → ¬ s_lt (nm x) (ns x) nf nl) → ∀ h', AD ad h h' d a y l (l1 ++ y :: l2) → Q none h') : V G mD_admit 0 (lv_args 0 [.ref d, .ref a]) [] h 0 0 Q := by
  have fin0 : ∀ v, lnk ad h v l → h.2.1 d 3 = v → (∀ x, l.head? = some x → ¬ s_lt (nm x) (ns x) nf nl) → V G mD_admit 38 [(3, v), (2, .null), (0, .ref d), (1, .ref a)] [] h 0 0 Q := by
    intro v hv hv3 hh
    rcases lnk_val hv with rfl | ⟨b9, rfl⟩
    · first | refine V.aload_n dD_admit_38 rfl ?_ | refine V.aload_nN dD_admit_38 rfl ?_
      first | refine V.aload_n dD_admit_39 rfl ?_ | refine V.aload_nN dD_admit_39 rfl ?_
      first | refine V.aload_n dD_admit_40 rfl ?_ | refine V.aload_nN dD_admit_40 rfl ?_
      refine V.callVk (kd := 2) 0 _ 0 _ [_, _] dD_admit_41 okD_link n_D_32 hd.1 hd.2 rfl imD_link seD_link_D (by decide) (by decide) rfl rfl (Nat.le_of_ble_eq_true rfl) (Nat.le_of_ble_eq_true rfl) (Nat.le_of_eq (Nat.zero_add _)) (Nat.le_of_eq (Nat.zero_add _)) (k_link0 (r := some a) hd (fun h41 e41 => ?_))
      have s41 : h41.2.2 = h.2.2 := by (rw [e41]; rfl)
      have t41 : h41.1 = h.1 := by (rw [e41]; rfl)
      have ha41 : g_0 G ≤ a ∧ a < h41.2.2 := by (rw [s41]; exact hE.1)
      have hka41 : (h41.1 a).1 = 2 ∨ (h41.1 a).1 = 3 := by (rw [t41]; exact hE.2.1)
      first | refine V.aload_n dD_admit_44 rfl ?_ | refine V.aload_nN dD_admit_44 rfl ?_
      first | refine V.aload_n dD_admit_45 rfl ?_ | refine V.aload_nN dD_admit_45 rfl ?_
      refine V.putk dD_admit_46 ha41 rfl (pE p_D_21_2 p_D_21_3 hka41) rfl rfl ?_
      intro h46 e46
      have s46 : h46.2.2 = h.2.2 := by (rw [e46]; exact s41)
      have t46 : h46.1 = h.1 := by (rw [e46]; exact t41)
      have ha46 : g_0 G ≤ a ∧ a < h46.2.2 := by (rw [s46]; exact hE.1)
      have hka46 : (h46.1 a).1 = 2 ∨ (h46.1 a).1 = 3 := by (rw [t46]; exact hE.2.1)
      first | refine V.aload_n dD_admit_49 rfl ?_ | refine V.aload_nN dD_admit_49 rfl ?_
      first | refine V.aload_n dD_admit_50 rfl ?_ | refine V.aload_nN dD_admit_50 rfl ?_
      refine V.putk dD_admit_51 ha46 rfl (pE p_D_36_2 p_D_36_3 hka46) rfl rfl ?_
      intro h51 e51
      have s51 : h51.2.2 = h.2.2 := by (rw [e51]; exact s46)
      have t51 : h51.1 = h.1 := by (rw [e51]; exact t46)
      have hd51 : g_0 G ≤ d ∧ d < h51.2.2 := by (rw [s51]; exact hd.1)
      have hkd51 : (h51.1 d).1 = 2 := by (rw [t51]; exact hd.2)
      have hz51 : h51.2.1 d 4 = .int (nI l.length) := by (rw [e51, e46, e41, hp_a hda, hp_a hda]; exact (hp_j (by omega)).trans hz)
      first | refine V.aload_n dD_admit_54 rfl ?_ | refine V.aload_nN dD_admit_54 rfl ?_
      refine V.dup dD_admit_55 rfl ?_
      refine V.getk dD_admit_56 hd51 hkd51 f_D_13_2 hz51 ?_
      refine V.iconst (v := (nI 1)) dD_admit_59 (by decide) ?_
      refine V.iaddN dD_admit_60 ?_
      refine V.putk dD_admit_61 hd51 hkd51 p_D_13_2 rfl rfl ?_
      intro h61 e61
      refine V.vreturn dD_admit_64 rfl ?_
      exact hQ [] l rfl (fun x hx2 => absurd hx2 List.not_mem_nil) hh h61 (AD.of0 hv hy hda hx (by rw [e61, e51, e46, e41]; rfl))
    · first | refine V.aload_n dD_admit_38 rfl ?_ | refine V.aload_nN dD_admit_38 rfl ?_
      first | refine V.aload_n dD_admit_39 rfl ?_ | refine V.aload_nN dD_admit_39 rfl ?_
      first | refine V.aload_n dD_admit_40 rfl ?_ | refine V.aload_nN dD_admit_40 rfl ?_
      refine V.callVk (kd := 2) 0 _ 0 _ [_, _] dD_admit_41 okD_link n_D_32 hd.1 hd.2 rfl imD_link seD_link_D (by decide) (by decide) rfl rfl (Nat.le_of_ble_eq_true rfl) (Nat.le_of_ble_eq_true rfl) (Nat.le_of_eq (Nat.zero_add _)) (Nat.le_of_eq (Nat.zero_add _)) (k_link0 (r := some a) hd (fun h41 e41 => ?_))
      have s41 : h41.2.2 = h.2.2 := by (rw [e41]; rfl)
      have t41 : h41.1 = h.1 := by (rw [e41]; rfl)
      have ha41 : g_0 G ≤ a ∧ a < h41.2.2 := by (rw [s41]; exact hE.1)
      have hka41 : (h41.1 a).1 = 2 ∨ (h41.1 a).1 = 3 := by (rw [t41]; exact hE.2.1)
      first | refine V.aload_n dD_admit_44 rfl ?_ | refine V.aload_nN dD_admit_44 rfl ?_
      first | refine V.aload_n dD_admit_45 rfl ?_ | refine V.aload_nN dD_admit_45 rfl ?_
      refine V.putk dD_admit_46 ha41 rfl (pE p_D_21_2 p_D_21_3 hka41) rfl rfl ?_
      intro h46 e46
      have s46 : h46.2.2 = h.2.2 := by (rw [e46]; exact s41)
      have t46 : h46.1 = h.1 := by (rw [e46]; exact t41)
      have ha46 : g_0 G ≤ a ∧ a < h46.2.2 := by (rw [s46]; exact hE.1)
      have hka46 : (h46.1 a).1 = 2 ∨ (h46.1 a).1 = 3 := by (rw [t46]; exact hE.2.1)
      first | refine V.aload_n dD_admit_49 rfl ?_ | refine V.aload_nN dD_admit_49 rfl ?_
      first | refine V.aload_n dD_admit_50 rfl ?_ | refine V.aload_nN dD_admit_50 rfl ?_
      refine V.putk dD_admit_51 ha46 rfl (pE p_D_36_2 p_D_36_3 hka46) rfl rfl ?_
      intro h51 e51
      have s51 : h51.2.2 = h.2.2 := by (rw [e51]; exact s46)
      have t51 : h51.1 = h.1 := by (rw [e51]; exact t46)
      have hd51 : g_0 G ≤ d ∧ d < h51.2.2 := by (rw [s51]; exact hd.1)
      have hkd51 : (h51.1 d).1 = 2 := by (rw [t51]; exact hd.2)
      have hz51 : h51.2.1 d 4 = .int (nI l.length) := by (rw [e51, e46, e41, hp_a hda, hp_a hda]; exact (hp_j (by omega)).trans hz)
      first | refine V.aload_n dD_admit_54 rfl ?_ | refine V.aload_nN dD_admit_54 rfl ?_
      refine V.dup dD_admit_55 rfl ?_
      refine V.getk dD_admit_56 hd51 hkd51 f_D_13_2 hz51 ?_
      refine V.iconst (v := (nI 1)) dD_admit_59 (by decide) ?_
      refine V.iaddN dD_admit_60 ?_
      refine V.putk dD_admit_61 hd51 hkd51 p_D_13_2 rfl rfl ?_
      intro h61 e61
      refine V.vreturn dD_admit_64 rfl ?_
      exact hQ [] l rfl (fun x hx2 => absurd hx2 List.not_mem_nil) hh h61 (AD.of0 hv hy hda hx (by rw [e61, e51, e46, e41]; rfl))
  have fin1 : ∀ l0 x0 l2 v, l = l0 ++ x0 :: l2 → lnk ad h v l2 → h.2.1 (ad x0) 2 = v → (∀ x ∈ l0 ++ [x0], s_lt (nm x) (ns x) nf nl) → (∀ x, l2.head? = some x → ¬ s_lt (nm x) (ns x) nf nl) → V G mD_admit 38 [(3, v), (2, .ref (ad x0)), (0, .ref d), (1, .ref a)] [] h 0 0 Q := by
    intro l0 x0 l2 v hls hv hv3 hb hh
    have hxm : x0 ∈ l := by (rw [hls]; exact List.mem_append_right _ List.mem_cons_self)
    have hxb := hN x0 hxm
    have hnd2 := hnd
    rw [hls] at hnd2
    have hi0 : ∀ x ∈ l0 ++ l2, ad x ≠ ad x0 := fun x hx2 z => by
      have hm : x ∈ l := by (rw [hls]; exact (List.mem_append.mp hx2).elim (fun z => List.mem_append_left _ z) (fun z => List.mem_append_right _ (List.mem_cons_of_mem _ z)))
      have := hi x hm x0 hxm z
      subst this
      rw [List.nodup_append] at hnd2
      rcases List.mem_append.mp hx2 with q | q
      · exact hnd2.2.2 x q x List.mem_cons_self rfl
      · exact (List.nodup_cons.mp hnd2.2.1).1 q
    rcases lnk_val hv with rfl | ⟨b9, rfl⟩
    · first | refine V.aload_n dD_admit_38 rfl ?_ | refine V.aload_nN dD_admit_38 rfl ?_
      first | refine V.aload_n dD_admit_39 rfl ?_ | refine V.aload_nN dD_admit_39 rfl ?_
      first | refine V.aload_n dD_admit_40 rfl ?_ | refine V.aload_nN dD_admit_40 rfl ?_
      refine V.callVk (kd := 2) 0 _ 0 _ [_, _] dD_admit_41 okD_link n_D_32 hd.1 hd.2 rfl imD_link seD_link_D (by decide) (by decide) rfl rfl (Nat.le_of_ble_eq_true rfl) (Nat.le_of_ble_eq_true rfl) (Nat.le_of_eq (Nat.zero_add _)) (Nat.le_of_eq (Nat.zero_add _)) (k_link1 (r := some a) hd ⟨hxb.1, hxb.2.1⟩ (fun h41 e41 => ?_))
      have s41 : h41.2.2 = h.2.2 := by (rw [e41]; rfl)
      have t41 : h41.1 = h.1 := by (rw [e41]; rfl)
      have ha41 : g_0 G ≤ a ∧ a < h41.2.2 := by (rw [s41]; exact hE.1)
      have hka41 : (h41.1 a).1 = 2 ∨ (h41.1 a).1 = 3 := by (rw [t41]; exact hE.2.1)
      first | refine V.aload_n dD_admit_44 rfl ?_ | refine V.aload_nN dD_admit_44 rfl ?_
      first | refine V.aload_n dD_admit_45 rfl ?_ | refine V.aload_nN dD_admit_45 rfl ?_
      refine V.putk dD_admit_46 ha41 rfl (pE p_D_21_2 p_D_21_3 hka41) rfl rfl ?_
      intro h46 e46
      have s46 : h46.2.2 = h.2.2 := by (rw [e46]; exact s41)
      have t46 : h46.1 = h.1 := by (rw [e46]; exact t41)
      have ha46 : g_0 G ≤ a ∧ a < h46.2.2 := by (rw [s46]; exact hE.1)
      have hka46 : (h46.1 a).1 = 2 ∨ (h46.1 a).1 = 3 := by (rw [t46]; exact hE.2.1)
      first | refine V.aload_n dD_admit_49 rfl ?_ | refine V.aload_nN dD_admit_49 rfl ?_
      first | refine V.aload_n dD_admit_50 rfl ?_ | refine V.aload_nN dD_admit_50 rfl ?_
      refine V.putk dD_admit_51 ha46 rfl (pE p_D_36_2 p_D_36_3 hka46) rfl rfl ?_
      intro h51 e51
      have s51 : h51.2.2 = h.2.2 := by (rw [e51]; exact s46)
      have t51 : h51.1 = h.1 := by (rw [e51]; exact t46)
      have hd51 : g_0 G ≤ d ∧ d < h51.2.2 := by (rw [s51]; exact hd.1)
      have hkd51 : (h51.1 d).1 = 2 := by (rw [t51]; exact hd.2)
      have hz51 : h51.2.1 d 4 = .int (nI l.length) := by (rw [e51, e46, e41, hp_a hda, hp_a hda]; exact (hp_a (fun z => (hx _ hxm).2 z.symm)).trans hz)
      first | refine V.aload_n dD_admit_54 rfl ?_ | refine V.aload_nN dD_admit_54 rfl ?_
      refine V.dup dD_admit_55 rfl ?_
      refine V.getk dD_admit_56 hd51 hkd51 f_D_13_2 hz51 ?_
      refine V.iconst (v := (nI 1)) dD_admit_59 (by decide) ?_
      refine V.iaddN dD_admit_60 ?_
      refine V.putk dD_admit_61 hd51 hkd51 p_D_13_2 rfl rfl ?_
      intro h61 e61
      refine V.vreturn dD_admit_64 rfl ?_
      refine hQ (l0 ++ [x0]) l2 (by rw [hls, List.append_assoc]; rfl) hb hh h61 ?_
      rw [List.append_assoc]
      subst hls
      exact AD.of1 hl hv3 hy hda hx hi0 (by rw [e61, e51, e46, e41]; rfl)
    · first | refine V.aload_n dD_admit_38 rfl ?_ | refine V.aload_nN dD_admit_38 rfl ?_
      first | refine V.aload_n dD_admit_39 rfl ?_ | refine V.aload_nN dD_admit_39 rfl ?_
      first | refine V.aload_n dD_admit_40 rfl ?_ | refine V.aload_nN dD_admit_40 rfl ?_
      refine V.callVk (kd := 2) 0 _ 0 _ [_, _] dD_admit_41 okD_link n_D_32 hd.1 hd.2 rfl imD_link seD_link_D (by decide) (by decide) rfl rfl (Nat.le_of_ble_eq_true rfl) (Nat.le_of_ble_eq_true rfl) (Nat.le_of_eq (Nat.zero_add _)) (Nat.le_of_eq (Nat.zero_add _)) (k_link1 (r := some a) hd ⟨hxb.1, hxb.2.1⟩ (fun h41 e41 => ?_))
      have s41 : h41.2.2 = h.2.2 := by (rw [e41]; rfl)
      have t41 : h41.1 = h.1 := by (rw [e41]; rfl)
      have ha41 : g_0 G ≤ a ∧ a < h41.2.2 := by (rw [s41]; exact hE.1)
      have hka41 : (h41.1 a).1 = 2 ∨ (h41.1 a).1 = 3 := by (rw [t41]; exact hE.2.1)
      first | refine V.aload_n dD_admit_44 rfl ?_ | refine V.aload_nN dD_admit_44 rfl ?_
      first | refine V.aload_n dD_admit_45 rfl ?_ | refine V.aload_nN dD_admit_45 rfl ?_
      refine V.putk dD_admit_46 ha41 rfl (pE p_D_21_2 p_D_21_3 hka41) rfl rfl ?_
      intro h46 e46
      have s46 : h46.2.2 = h.2.2 := by (rw [e46]; exact s41)
      have t46 : h46.1 = h.1 := by (rw [e46]; exact t41)
      have ha46 : g_0 G ≤ a ∧ a < h46.2.2 := by (rw [s46]; exact hE.1)
      have hka46 : (h46.1 a).1 = 2 ∨ (h46.1 a).1 = 3 := by (rw [t46]; exact hE.2.1)
      first | refine V.aload_n dD_admit_49 rfl ?_ | refine V.aload_nN dD_admit_49 rfl ?_
      first | refine V.aload_n dD_admit_50 rfl ?_ | refine V.aload_nN dD_admit_50 rfl ?_
      refine V.putk dD_admit_51 ha46 rfl (pE p_D_36_2 p_D_36_3 hka46) rfl rfl ?_
      intro h51 e51
      have s51 : h51.2.2 = h.2.2 := by (rw [e51]; exact s46)
      have t51 : h51.1 = h.1 := by (rw [e51]; exact t46)
      have hd51 : g_0 G ≤ d ∧ d < h51.2.2 := by (rw [s51]; exact hd.1)
      have hkd51 : (h51.1 d).1 = 2 := by (rw [t51]; exact hd.2)
      have hz51 : h51.2.1 d 4 = .int (nI l.length) := by (rw [e51, e46, e41, hp_a hda, hp_a hda]; exact (hp_a (fun z => (hx _ hxm).2 z.symm)).trans hz)
      first | refine V.aload_n dD_admit_54 rfl ?_ | refine V.aload_nN dD_admit_54 rfl ?_
      refine V.dup dD_admit_55 rfl ?_
      refine V.getk dD_admit_56 hd51 hkd51 f_D_13_2 hz51 ?_
      refine V.iconst (v := (nI 1)) dD_admit_59 (by decide) ?_
      refine V.iaddN dD_admit_60 ?_
      refine V.putk dD_admit_61 hd51 hkd51 p_D_13_2 rfl rfl ?_
      intro h61 e61
      refine V.vreturn dD_admit_64 rfl ?_
      refine hQ (l0 ++ [x0]) l2 (by rw [hls, List.append_assoc]; rfl) hb hh h61 ?_
      rw [List.append_assoc]
      subst hls
      exact AD.of1 hl hv3 hy hda hx hi0 (by rw [e61, e51, e46, e41]; rfl)
  have loop1 : ∀ l2 l0 x0 v, l = l0 ++ x0 :: l2 → lnk ad h v l2 → h.2.1 (ad x0) 2 = v → (∀ x ∈ l0 ++ [x0], s_lt (nm x) (ns x) nf nl) → V G mD_admit 7 [(3, v), (2, .ref (ad x0)), (0, .ref d), (1, .ref a)] [] h 0 0 Q := by
    intro l2
    induction l2 with
    | nil =>
      intro l0 x0 v hls hv hv3 hb
      obtain rfl : v = .null := hv
      first | refine V.aload_n dD_admit_7 rfl ?_ | refine V.aload_nN dD_admit_7 rfl ?_
      refine V.ifnullN (tgt := 38) dD_admit_8 (by decide) ?_
      exact fin1 l0 x0 [] _ hls (show lnk ad h .null [] from rfl) hv3 hb (fun x z => by (cases z))
    | cons x l2 ih =>
      intro l0 x0 v hls hv hv3 hb
      obtain rfl : v = .ref (ad x) := hv.1
      have hex := hN x (by rw [hls]; exact List.mem_append_right _ (List.mem_cons_of_mem _ List.mem_cons_self))
      rcases lnk_val hv.2 with e9 | ⟨b9, e9⟩
      · first | refine V.aload_n dD_admit_7 rfl ?_ | refine V.aload_nN dD_admit_7 rfl ?_
        refine V.ifnull dD_admit_8 ?_
        first | refine V.aload_n dD_admit_11 rfl ?_ | refine V.aload_nN dD_admit_11 rfl ?_
        first | refine V.aload_n dD_admit_12 rfl ?_ | refine V.aload_nN dD_admit_12 rfl ?_
        refine V.getk dD_admit_13 hE.1 rfl (fE f_D_28_2 f_D_28_3 hE.2.1) hE.2.2.1 ?_
        refine V.iconst (v := (nI 0)) dD_admit_16 (by decide) ?_
        first | refine V.aload_n dD_admit_17 rfl ?_ | refine V.aload_nN dD_admit_17 rfl ?_
        refine V.getk dD_admit_18 hE.1 rfl (fE f_D_28_2 f_D_28_3 hE.2.1) hE.2.2.1 ?_
        refine V.alenN dD_admit_21 hE.2.2.2.1 hE.2.2.2.2.1 rfl ?_
        refine V.ord dD_admit_22 ml_D_17 hex.1 hex.2.1 (by decide) (by decide) (Nat.le_of_ble_eq_true rfl) (k_order hex hE.cs (fun r hr1 hr2 => ?_))
        refine V.if_ge (tgt := 38) dD_admit_25 (by decide) (fun c_25 => ?_) (fun c_25 => ?_)
        · skip
          exact fin1 l0 x0 (x :: l2) _ hls hv hv3 hb (fun z hz2 => by (cases hz2; exact fun w => absurd (hr2.mpr (by simpa using w)) (Int32.not_lt.mpr c_25)))
        · skip
          first | refine V.aload_n dD_admit_28 rfl ?_ | refine V.aload_nN dD_admit_28 rfl ?_
          first | refine V.astore_n dD_admit_29 (by decide) ?_ | refine V.astore_nN dD_admit_29 (by decide) ?_
          first | refine V.aload_n dD_admit_30 rfl ?_ | refine V.aload_nN dD_admit_30 rfl ?_
          refine V.getk dD_admit_31 hex.1 rfl (fE f_D_21_2 f_D_21_3 hex.2.1) e9 ?_
          first | refine V.astore_n dD_admit_34 (by decide) ?_ | refine V.astore_nN dD_admit_34 (by decide) ?_
          refine V.goto (tgt := 7) dD_admit_35 (by decide) ?_
          exact V.re [3, 2, 0, 1] rfl (ih (l0 ++ [x0]) x _ (by rw [hls, List.append_assoc]; rfl) (by rw [← e9]; exact hv.2) e9 (fun z hz2 => (List.mem_append.mp hz2).elim (hb z) (fun w => by (rw [List.mem_singleton.mp w]; simpa using hr2.mp (Int32.not_le.mp c_25)))))
      · first | refine V.aload_n dD_admit_7 rfl ?_ | refine V.aload_nN dD_admit_7 rfl ?_
        refine V.ifnull dD_admit_8 ?_
        first | refine V.aload_n dD_admit_11 rfl ?_ | refine V.aload_nN dD_admit_11 rfl ?_
        first | refine V.aload_n dD_admit_12 rfl ?_ | refine V.aload_nN dD_admit_12 rfl ?_
        refine V.getk dD_admit_13 hE.1 rfl (fE f_D_28_2 f_D_28_3 hE.2.1) hE.2.2.1 ?_
        refine V.iconst (v := (nI 0)) dD_admit_16 (by decide) ?_
        first | refine V.aload_n dD_admit_17 rfl ?_ | refine V.aload_nN dD_admit_17 rfl ?_
        refine V.getk dD_admit_18 hE.1 rfl (fE f_D_28_2 f_D_28_3 hE.2.1) hE.2.2.1 ?_
        refine V.alenN dD_admit_21 hE.2.2.2.1 hE.2.2.2.2.1 rfl ?_
        refine V.ord dD_admit_22 ml_D_17 hex.1 hex.2.1 (by decide) (by decide) (Nat.le_of_ble_eq_true rfl) (k_order hex hE.cs (fun r hr1 hr2 => ?_))
        refine V.if_ge (tgt := 38) dD_admit_25 (by decide) (fun c_25 => ?_) (fun c_25 => ?_)
        · skip
          exact fin1 l0 x0 (x :: l2) _ hls hv hv3 hb (fun z hz2 => by (cases hz2; exact fun w => absurd (hr2.mpr (by simpa using w)) (Int32.not_lt.mpr c_25)))
        · skip
          first | refine V.aload_n dD_admit_28 rfl ?_ | refine V.aload_nN dD_admit_28 rfl ?_
          first | refine V.astore_n dD_admit_29 (by decide) ?_ | refine V.astore_nN dD_admit_29 (by decide) ?_
          first | refine V.aload_n dD_admit_30 rfl ?_ | refine V.aload_nN dD_admit_30 rfl ?_
          refine V.getk dD_admit_31 hex.1 rfl (fE f_D_21_2 f_D_21_3 hex.2.1) e9 ?_
          first | refine V.astore_n dD_admit_34 (by decide) ?_ | refine V.astore_nN dD_admit_34 (by decide) ?_
          refine V.goto (tgt := 7) dD_admit_35 (by decide) ?_
          exact V.re [3, 2, 0, 1] rfl (ih (l0 ++ [x0]) x _ (by rw [hls, List.append_assoc]; rfl) (by rw [← e9]; exact hv.2) e9 (fun z hz2 => (List.mem_append.mp hz2).elim (hb z) (fun w => by (rw [List.mem_singleton.mp w]; simpa using hr2.mp (Int32.not_le.mp c_25)))))
  rcases lnk_val hl with e3 | ⟨b3, e3⟩
  · refine V.null dD_admit_0 ?_
    first | refine V.astore_n dD_admit_1 (by decide) ?_ | refine V.astore_nN dD_admit_1 (by decide) ?_
    first | refine V.aload_n dD_admit_2 rfl ?_ | refine V.aload_nN dD_admit_2 rfl ?_
    refine V.getk dD_admit_3 hd.1 hd.2 f_D_7_2 e3 ?_
    first | refine V.astore_n dD_admit_6 (by decide) ?_ | refine V.astore_nN dD_admit_6 (by decide) ?_
    first | refine V.aload_n dD_admit_7 rfl ?_ | refine V.aload_nN dD_admit_7 rfl ?_
    refine V.ifnullN (tgt := 38) dD_admit_8 (by decide) ?_
    have hl0 : l = [] := by (cases l with | nil => rfl | cons x l => exact absurd (e3.symm.trans hl.1) (fun z => by (cases z)))
    exact V.re [3, 2, 0, 1] rfl (fin0 _ (by rw [← e3]; exact hl) e3 (fun x z => by (rw [hl0] at z; cases z)))
  · cases l with
    | nil => exact absurd (hl.symm.trans e3) (fun z => by (cases z))
    | cons x l2 =>
      have hex := hN x List.mem_cons_self
      obtain rfl : b3 = ad x := Value.ref.inj (e3.symm.trans hl.1)
      rcases lnk_val hl.2 with e9 | ⟨b9, e9⟩
      · refine V.null dD_admit_0 ?_
        first | refine V.astore_n dD_admit_1 (by decide) ?_ | refine V.astore_nN dD_admit_1 (by decide) ?_
        first | refine V.aload_n dD_admit_2 rfl ?_ | refine V.aload_nN dD_admit_2 rfl ?_
        refine V.getk dD_admit_3 hd.1 hd.2 f_D_7_2 e3 ?_
        first | refine V.astore_n dD_admit_6 (by decide) ?_ | refine V.astore_nN dD_admit_6 (by decide) ?_
        first | refine V.aload_n dD_admit_7 rfl ?_ | refine V.aload_nN dD_admit_7 rfl ?_
        refine V.ifnull dD_admit_8 ?_
        first | refine V.aload_n dD_admit_11 rfl ?_ | refine V.aload_nN dD_admit_11 rfl ?_
        first | refine V.aload_n dD_admit_12 rfl ?_ | refine V.aload_nN dD_admit_12 rfl ?_
        refine V.getk dD_admit_13 hE.1 rfl (fE f_D_28_2 f_D_28_3 hE.2.1) hE.2.2.1 ?_
        refine V.iconst (v := (nI 0)) dD_admit_16 (by decide) ?_
        first | refine V.aload_n dD_admit_17 rfl ?_ | refine V.aload_nN dD_admit_17 rfl ?_
        refine V.getk dD_admit_18 hE.1 rfl (fE f_D_28_2 f_D_28_3 hE.2.1) hE.2.2.1 ?_
        refine V.alenN dD_admit_21 hE.2.2.2.1 hE.2.2.2.2.1 rfl ?_
        refine V.ord dD_admit_22 ml_D_17 hex.1 hex.2.1 (by decide) (by decide) (Nat.le_of_ble_eq_true rfl) (k_order hex hE.cs (fun r hr1 hr2 => ?_))
        refine V.if_ge (tgt := 38) dD_admit_25 (by decide) (fun c_25 => ?_) (fun c_25 => ?_)
        · skip
          exact V.re [3, 2, 0, 1] rfl (fin0 _ (by rw [← e3]; exact hl) e3 (fun z hz2 => by (cases hz2; exact fun w => absurd (hr2.mpr (by simpa using w)) (Int32.not_lt.mpr c_25))))
        · skip
          first | refine V.aload_n dD_admit_28 rfl ?_ | refine V.aload_nN dD_admit_28 rfl ?_
          first | refine V.astore_n dD_admit_29 (by decide) ?_ | refine V.astore_nN dD_admit_29 (by decide) ?_
          first | refine V.aload_n dD_admit_30 rfl ?_ | refine V.aload_nN dD_admit_30 rfl ?_
          refine V.getk dD_admit_31 hex.1 rfl (fE f_D_21_2 f_D_21_3 hex.2.1) e9 ?_
          first | refine V.astore_n dD_admit_34 (by decide) ?_ | refine V.astore_nN dD_admit_34 (by decide) ?_
          refine V.goto (tgt := 7) dD_admit_35 (by decide) ?_
          exact V.re [3, 2, 0, 1] rfl (loop1 l2 [] x _ rfl (by rw [← e9]; exact hl.2) e9 (fun z hz2 => by (rw [List.mem_singleton.mp hz2]; simpa using hr2.mp (Int32.not_le.mp c_25))))
      · refine V.null dD_admit_0 ?_
        first | refine V.astore_n dD_admit_1 (by decide) ?_ | refine V.astore_nN dD_admit_1 (by decide) ?_
        first | refine V.aload_n dD_admit_2 rfl ?_ | refine V.aload_nN dD_admit_2 rfl ?_
        refine V.getk dD_admit_3 hd.1 hd.2 f_D_7_2 e3 ?_
        first | refine V.astore_n dD_admit_6 (by decide) ?_ | refine V.astore_nN dD_admit_6 (by decide) ?_
        first | refine V.aload_n dD_admit_7 rfl ?_ | refine V.aload_nN dD_admit_7 rfl ?_
        refine V.ifnull dD_admit_8 ?_
        first | refine V.aload_n dD_admit_11 rfl ?_ | refine V.aload_nN dD_admit_11 rfl ?_
        first | refine V.aload_n dD_admit_12 rfl ?_ | refine V.aload_nN dD_admit_12 rfl ?_
        refine V.getk dD_admit_13 hE.1 rfl (fE f_D_28_2 f_D_28_3 hE.2.1) hE.2.2.1 ?_
        refine V.iconst (v := (nI 0)) dD_admit_16 (by decide) ?_
        first | refine V.aload_n dD_admit_17 rfl ?_ | refine V.aload_nN dD_admit_17 rfl ?_
        refine V.getk dD_admit_18 hE.1 rfl (fE f_D_28_2 f_D_28_3 hE.2.1) hE.2.2.1 ?_
        refine V.alenN dD_admit_21 hE.2.2.2.1 hE.2.2.2.2.1 rfl ?_
        refine V.ord dD_admit_22 ml_D_17 hex.1 hex.2.1 (by decide) (by decide) (Nat.le_of_ble_eq_true rfl) (k_order hex hE.cs (fun r hr1 hr2 => ?_))
        refine V.if_ge (tgt := 38) dD_admit_25 (by decide) (fun c_25 => ?_) (fun c_25 => ?_)
        · skip
          exact V.re [3, 2, 0, 1] rfl (fin0 _ (by rw [← e3]; exact hl) e3 (fun z hz2 => by (cases hz2; exact fun w => absurd (hr2.mpr (by simpa using w)) (Int32.not_lt.mpr c_25))))
        · skip
          first | refine V.aload_n dD_admit_28 rfl ?_ | refine V.aload_nN dD_admit_28 rfl ?_
          first | refine V.astore_n dD_admit_29 (by decide) ?_ | refine V.astore_nN dD_admit_29 (by decide) ?_
          first | refine V.aload_n dD_admit_30 rfl ?_ | refine V.aload_nN dD_admit_30 rfl ?_
          refine V.getk dD_admit_31 hex.1 rfl (fE f_D_21_2 f_D_21_3 hex.2.1) e9 ?_
          first | refine V.astore_n dD_admit_34 (by decide) ?_ | refine V.astore_nN dD_admit_34 (by decide) ?_
          refine V.goto (tgt := 7) dD_admit_35 (by decide) ?_
          exact V.re [3, 2, 0, 1] rfl (loop1 l2 [] x _ rfl (by rw [← e9]; exact hl.2) e9 (fun z hz2 => by (rw [List.mem_singleton.mp hz2]; simpa using hr2.mp (Int32.not_le.mp c_25))))
