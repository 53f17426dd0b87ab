/-- entry y, at ad y, goes out of the chain l of directory d: what changes -/
def RL (ad : Nat → Nat) (h h' : HH) (d y : Nat) (l l' : List Nat) : Prop := h'.1 = h.1 ∧ h'.2.2 = h.2.2 ∧ lnk ad h' (h'.2.1 d 3) l' ∧ h'.2.1 d 4 = .int (nI (l.length - 1)) ∧ h'.2.1 (ad y) 1 = .null ∧
  ∀ b j, ¬ (b = d ∧ (j = 3 ∨ j = 4)) → ¬ (b = ad y ∧ (j = 1 ∨ j = 2)) → (∀ x ∈ l, ¬ (b = ad x ∧ j = 2)) → h'.2.1 b j = h.2.1 b j
theorem lnk_ne {ad : Nat → Nat} {h : HH} {v : Value} {l1 l2 : List Nat} {y : Nat} (hl : lnk ad h v (l1 ++ y :: l2)) : ∃ b, v = .ref b := by
  cases l1 with
  | nil => exact ⟨_, hl.1⟩
  | cons x l1 => exact ⟨_, hl.1⟩
theorem RL.of0 {ad : Nat → Nat} {h h' : HH} {d y : Nat} {l2 : List Nat} {v : Value} (hl : lnk ad h v l2) (hx : ∀ x ∈ y :: l2, ad x ≠ d) (hi : ∀ x ∈ l2, ad x ≠ ad y)
    (e : h' = h_put (h_put (h_put (h_put h d 3 v) (ad y) 2 .null) (ad y) 1 .null) d 4 (.int (nI ((y :: l2).length - 1)))) : RL ad h h' d y (y :: l2) l2 := by
  have hyd := hx y List.mem_cons_self
  have hdy : d ≠ ad y := fun z => hyd z.symm
  have e3 : h'.2.1 d 3 = v := by rw [e, hp_j (by omega), hp_a hdy, hp_a hdy]; exact hp_eq
  refine ⟨by rw [e]; rfl, by rw [e]; rfl, ?_, by rw [e]; exact hp_eq, by rw [e, hp_a hyd]; exact hp_eq, fun b j h1 h2 h3 => ?_⟩
  · rw [e3]
    refine lnk_congr (h := h) (fun x hx2 => ?_) hl
    have hxd := hx x (List.mem_cons_of_mem _ hx2)
    rw [e, hp_a hxd, hp_a (hi x hx2), hp_a (hi x hx2), hp_a hxd]
  · rw [e, hp_ne (fun z => h1 ⟨z.1, Or.inr z.2⟩), hp_ne (fun z => h2 ⟨z.1, Or.inl z.2⟩), hp_ne (fun z => h2 ⟨z.1, Or.inr z.2⟩), hp_ne (fun z => h1 ⟨z.1, Or.inl z.2⟩)]
theorem RL.of1 {ad : Nat → Nat} {h h' : HH} {d y x0 : Nat} {l0 l2 : List Nat} {v : Value} (hl : lnk ad h (h.2.1 d 3) (l0 ++ x0 :: y :: l2)) (hv : h.2.1 (ad y) 2 = v) (hx : ∀ x ∈ l0 ++ x0 :: y :: l2, ad x ≠ d) (hi : ∀ x ∈ l0 ++ x0 :: l2, ad x ≠ ad y) (hi0 : ∀ x ∈ l0 ++ l2, ad x ≠ ad x0)
    (e : h' = h_put (h_put (h_put (h_put h (ad x0) 2 v) (ad y) 2 .null) (ad y) 1 .null) d 4 (.int (nI ((l0 ++ x0 :: y :: l2).length - 1)))) : RL ad h h' d y (l0 ++ x0 :: y :: l2) (l0 ++ x0 :: l2) := by
  have hmy : y ∈ l0 ++ x0 :: y :: l2 := List.mem_append_right _ (List.mem_cons_of_mem _ List.mem_cons_self)
  have hm0 : x0 ∈ l0 ++ x0 :: y :: l2 := List.mem_append_right _ List.mem_cons_self
  have hyd := hx y hmy
  have hdy : d ≠ ad y := fun z => hyd z.symm
  have h0y := hi x0 (List.mem_append_right _ List.mem_cons_self)
  have e3 : h'.2.1 d 3 = h.2.1 d 3 := by rw [e, hp_j (by omega), hp_a hdy, hp_a hdy, hp_a (fun z => (hx x0 hm0) z.symm)]
  have e0 : h'.2.1 (ad x0) 2 = v := by rw [e, hp_a (hx x0 hm0), hp_a h0y, hp_a h0y]; exact hp_eq
  have eo : ∀ x ∈ l0 ++ l2, h'.2.1 (ad x) 2 = h.2.1 (ad x) 2 := fun x hx2 => by
    have hm : x ∈ l0 ++ x0 :: y :: l2 := (List.mem_append.mp hx2).elim (fun z => List.mem_append_left _ z) (fun z => List.mem_append_right _ (List.mem_cons_of_mem _ (List.mem_cons_of_mem _ z)))
    have hm2 : x ∈ l0 ++ x0 :: l2 := (List.mem_append.mp hx2).elim (fun z => List.mem_append_left _ z) (fun z => List.mem_append_right _ (List.mem_cons_of_mem _ z))
    rw [e, hp_a (hx x hm), hp_a (hi x hm2), hp_a (hi x hm2), hp_a (hi0 x hx2)]
  refine ⟨by rw [e]; rfl, by rw [e]; rfl, ?_, by rw [e]; exact hp_eq, by rw [e, hp_a hyd]; exact hp_eq, fun b j h1 h2 h3 => ?_⟩
  · rw [e3]
    refine lnk_cut (h := h) (l2 := y :: l2) hl (fun x hx2 => eo x (List.mem_append_left _ hx2)) ?_
    rw [e0, ← hv]
    exact lnk_congr (h := h) (fun x hx2 => eo x (List.mem_append_right _ hx2)) (lnk_mid (l0 := l0 ++ [x0]) (v := h.2.1 d 3) (by rw [List.append_assoc]; exact hl))
  · rw [e, hp_ne (fun z => h1 ⟨z.1, Or.inr z.2⟩), hp_ne (fun z => h2 ⟨z.1, Or.inl z.2⟩), hp_ne (fun z => h2 ⟨z.1, Or.inr z.2⟩), hp_ne (fun z => h3 x0 hm0 z)]
set_option maxHeartbeats 4000000 in
set_option maxRecDepth 100000 in
/-- Directory.release -/
theorem k_release {G : GG} {h : HH} {d y : Nat} {ad : Nat → Nat} {l1 l2 : List Nat} {Q : Option Value → HH → Prop} (hd : (g_0 G ≤ d ∧ d < h.2.2) ∧ (h.1 d).1 = 2) (hl : lnk ad h (h.2.1 d 3) (l1 ++ y :: l2)) (hz : h.2.1 d 4 = .int (nI (l1 ++ y :: l2).length)) (hN : ∀ x ∈ l1 ++ y :: l2, (g_0 G ≤ ad x ∧ ad x < h.2.2) ∧ ((h.1 (ad x)).1 = 2 ∨ (h.1 (ad x)).1 = 3)) (hx : ∀ x ∈ l1 ++ y :: l2, ad x ≠ d) (hi : ∀ x ∈ l1 ++ y :: l2, ∀ z ∈ l1 ++ y :: l2, ad x = ad z → x = z) (hnd : (l1 ++ y :: l2).Nodup) (hQ : ∀ h', RL ad h h' d y (l1 ++ y :: l2) (l1 ++ l2) → Q none h') : V G mD_release 0 (lv_args 0 [.ref d, .ref (ad y)]) [] h 0 0 Q := by
  have hmy : y ∈ l1 ++ y :: l2 := List.mem_append_right _ List.mem_cons_self
  have hye := hN y hmy
  have hdy : d ≠ ad y := fun z => hx y hmy z.symm
  have hl2 := lnk_mid hl
  have hnd2 := List.nodup_append.mp hnd
  have hiy : ∀ x ∈ l1 ++ l2, ad x ≠ ad y := fun x hx2 z => by
    have hm : x ∈ l1 ++ y :: l2 := (List.mem_append.mp hx2).elim (fun z => List.mem_append_left _ z) (fun z => List.mem_append_right _ (List.mem_cons_of_mem _ z))
    have h9 := hi x hm y hmy z
    subst h9
    rcases List.mem_append.mp hx2 with q | q
    · exact hnd2.2.2 x q x List.mem_cons_self rfl
    · exact (List.nodup_cons.mp hnd2.2.1).1 q
  have fin0 : l1 = [] → V G mD_release 31 [(3, .ref (ad y)), (2, .null), (0, .ref d), (1, .ref (ad y))] [] h 0 0 Q := by
    intro hl1
    have hiy0 : ∀ x ∈ l2, ad x ≠ ad y := fun x hx2 => hiy x (List.mem_append_right _ hx2)
    rcases lnk_val hl2 with e9 | ⟨b9, e9⟩
    · first | refine V.aload_n dD_release_31 rfl ?_ | refine V.aload_nN dD_release_31 rfl ?_
      first | refine V.aload_n dD_release_32 rfl ?_ | refine V.aload_nN dD_release_32 rfl ?_
      first | refine V.aload_n dD_release_33 rfl ?_ | refine V.aload_nN dD_release_33 rfl ?_
      refine V.getk dD_release_34 hye.1 rfl (fE f_D_21_2 f_D_21_3 hye.2) e9 ?_
      refine V.callVk (kd := 2) 0 _ 0 _ [_, _] dD_release_37 okD_link n_D_32 hd.1 hd.2 rfl imD_link seD_link_D (by decide) (by decide) rfl rfl (Nat.le_of_ble_eq_true rfl) (Nat.le_of_ble_eq_true rfl) (Nat.le_of_eq (Nat.zero_add _)) (Nat.le_of_eq (Nat.zero_add _)) (k_link0 (r := none) hd (fun h41 e41 => ?_))
      have s41 : h41.2.2 = h.2.2 := by (rw [e41]; rfl)
      have t41 : h41.1 = h.1 := by (rw [e41]; rfl)
      have ha41 : g_0 G ≤ ad y ∧ ad y < h41.2.2 := by (rw [s41]; exact hye.1)
      have hka41 : (h41.1 (ad y)).1 = 2 ∨ (h41.1 (ad y)).1 = 3 := by (rw [t41]; exact hye.2)
      first | refine V.aload_n dD_release_40 rfl ?_ | refine V.aload_nN dD_release_40 rfl ?_
      refine V.null dD_release_41 ?_
      refine V.putk dD_release_42 ha41 rfl (pE p_D_21_2 p_D_21_3 hka41) rfl rfl ?_
      intro h46 e46
      have s46 : h46.2.2 = h.2.2 := by (rw [e46]; exact s41)
      have t46 : h46.1 = h.1 := by (rw [e46]; exact t41)
      have ha46 : g_0 G ≤ ad y ∧ ad y < h46.2.2 := by (rw [s46]; exact hye.1)
      have hka46 : (h46.1 (ad y)).1 = 2 ∨ (h46.1 (ad y)).1 = 3 := by (rw [t46]; exact hye.2)
      first | refine V.aload_n dD_release_45 rfl ?_ | refine V.aload_nN dD_release_45 rfl ?_
      refine V.null dD_release_46 ?_
      refine V.putk dD_release_47 ha46 rfl (pE p_D_36_2 p_D_36_3 hka46) rfl rfl ?_
      intro h51 e51
      have s51 : h51.2.2 = h.2.2 := by (rw [e51]; exact s46)
      have t51 : h51.1 = h.1 := by (rw [e51]; exact t46)
      have hd51 : g_0 G ≤ d ∧ d < h51.2.2 := by (rw [s51]; exact hd.1)
      have hkd51 : (h51.1 d).1 = 2 := by (rw [t51]; exact hd.2)
      have hz51 : h51.2.1 d 4 = .int (nI (l1 ++ y :: l2).length) := by (rw [e51, e46, e41, hp_a hdy, hp_a hdy]; exact (hp_j (by omega)).trans hz)
      first | refine V.aload_n dD_release_50 rfl ?_ | refine V.aload_nN dD_release_50 rfl ?_
      refine V.dup dD_release_51 rfl ?_
      refine V.getk dD_release_52 hd51 hkd51 f_D_13_2 hz51 ?_
      refine V.iconst (v := (nI 1)) dD_release_55 (by decide) ?_
      have hln : 1 ≤ (l1 ++ y :: l2).length := by (rw [List.length_append, List.length_cons]; omega)
      refine V.isubN dD_release_56 (by omega) ?_
      refine V.putk dD_release_57 hd51 hkd51 p_D_13_2 rfl rfl ?_
      intro h61 e61
      refine V.vreturn dD_release_60 rfl ?_
      exact hQ h61 (by subst hl1; exact RL.of0 (v := h.2.1 (ad y) 2) hl2 hx hiy0 (by rw [e9, e61, e51, e46, e41]; rfl))
    · first | refine V.aload_n dD_release_31 rfl ?_ | refine V.aload_nN dD_release_31 rfl ?_
      first | refine V.aload_n dD_release_32 rfl ?_ | refine V.aload_nN dD_release_32 rfl ?_
      first | refine V.aload_n dD_release_33 rfl ?_ | refine V.aload_nN dD_release_33 rfl ?_
      refine V.getk dD_release_34 hye.1 rfl (fE f_D_21_2 f_D_21_3 hye.2) e9 ?_
      refine V.callVk (kd := 2) 0 _ 0 _ [_, _] dD_release_37 okD_link n_D_32 hd.1 hd.2 rfl imD_link seD_link_D (by decide) (by decide) rfl rfl (Nat.le_of_ble_eq_true rfl) (Nat.le_of_ble_eq_true rfl) (Nat.le_of_eq (Nat.zero_add _)) (Nat.le_of_eq (Nat.zero_add _)) (k_link0 (r := (some b9)) hd (fun h41 e41 => ?_))
      have s41 : h41.2.2 = h.2.2 := by (rw [e41]; rfl)
      have t41 : h41.1 = h.1 := by (rw [e41]; rfl)
      have ha41 : g_0 G ≤ ad y ∧ ad y < h41.2.2 := by (rw [s41]; exact hye.1)
      have hka41 : (h41.1 (ad y)).1 = 2 ∨ (h41.1 (ad y)).1 = 3 := by (rw [t41]; exact hye.2)
      first | refine V.aload_n dD_release_40 rfl ?_ | refine V.aload_nN dD_release_40 rfl ?_
      refine V.null dD_release_41 ?_
      refine V.putk dD_release_42 ha41 rfl (pE p_D_21_2 p_D_21_3 hka41) rfl rfl ?_
      intro h46 e46
      have s46 : h46.2.2 = h.2.2 := by (rw [e46]; exact s41)
      have t46 : h46.1 = h.1 := by (rw [e46]; exact t41)
      have ha46 : g_0 G ≤ ad y ∧ ad y < h46.2.2 := by (rw [s46]; exact hye.1)
      have hka46 : (h46.1 (ad y)).1 = 2 ∨ (h46.1 (ad y)).1 = 3 := by (rw [t46]; exact hye.2)
      first | refine V.aload_n dD_release_45 rfl ?_ | refine V.aload_nN dD_release_45 rfl ?_
      refine V.null dD_release_46 ?_
      refine V.putk dD_release_47 ha46 rfl (pE p_D_36_2 p_D_36_3 hka46) rfl rfl ?_
      intro h51 e51
      have s51 : h51.2.2 = h.2.2 := by (rw [e51]; exact s46)
      have t51 : h51.1 = h.1 := by (rw [e51]; exact t46)
      have hd51 : g_0 G ≤ d ∧ d < h51.2.2 := by (rw [s51]; exact hd.1)
      have hkd51 : (h51.1 d).1 = 2 := by (rw [t51]; exact hd.2)
      have hz51 : h51.2.1 d 4 = .int (nI (l1 ++ y :: l2).length) := by (rw [e51, e46, e41, hp_a hdy, hp_a hdy]; exact (hp_j (by omega)).trans hz)
      first | refine V.aload_n dD_release_50 rfl ?_ | refine V.aload_nN dD_release_50 rfl ?_
      refine V.dup dD_release_51 rfl ?_
      refine V.getk dD_release_52 hd51 hkd51 f_D_13_2 hz51 ?_
      refine V.iconst (v := (nI 1)) dD_release_55 (by decide) ?_
      have hln : 1 ≤ (l1 ++ y :: l2).length := by (rw [List.length_append, List.length_cons]; omega)
      refine V.isubN dD_release_56 (by omega) ?_
      refine V.putk dD_release_57 hd51 hkd51 p_D_13_2 rfl rfl ?_
      intro h61 e61
      refine V.vreturn dD_release_60 rfl ?_
      exact hQ h61 (by subst hl1; exact RL.of0 (v := h.2.1 (ad y) 2) hl2 hx hiy0 (by rw [e9, e61, e51, e46, e41]; rfl))
  have fin1 : ∀ l0 x0, l1 = l0 ++ [x0] → V G mD_release 31 [(3, .ref (ad y)), (2, .ref (ad x0)), (0, .ref d), (1, .ref (ad y))] [] h 0 0 Q := by
    intro l0 x0 hls
    have hxm : x0 ∈ l1 ++ y :: l2 := by (rw [hls]; exact List.mem_append_left _ (List.mem_append_right _ List.mem_cons_self))
    have hxb := hN x0 hxm
    have hi0 : ∀ x ∈ l0 ++ l2, ad x ≠ ad x0 := fun x hx2 z => by
      have hm : x ∈ l1 ++ y :: l2 := by (rw [hls]; exact (List.mem_append.mp hx2).elim (fun z => List.mem_append_left _ (List.mem_append_left _ z)) (fun z => List.mem_append_right _ (List.mem_cons_of_mem _ z)))
      have h9 := hi x hm x0 hxm z
      subst h9
      have hnd3 := hnd
      rw [hls, List.append_assoc] at hnd3
      have hnd4 := List.nodup_append.mp hnd3
      rcases List.mem_append.mp hx2 with q | q
      · exact hnd4.2.2 x q x List.mem_cons_self rfl
      · exact (List.nodup_cons.mp hnd4.2.1).1 (List.mem_cons_of_mem _ q)
    rcases lnk_val hl2 with e9 | ⟨b9, e9⟩
    · first | refine V.aload_n dD_release_31 rfl ?_ | refine V.aload_nN dD_release_31 rfl ?_
      first | refine V.aload_n dD_release_32 rfl ?_ | refine V.aload_nN dD_release_32 rfl ?_
      first | refine V.aload_n dD_release_33 rfl ?_ | refine V.aload_nN dD_release_33 rfl ?_
      refine V.getk dD_release_34 hye.1 rfl (fE f_D_21_2 f_D_21_3 hye.2) e9 ?_
      refine V.callVk (kd := 2) 0 _ 0 _ [_, _] dD_release_37 okD_link n_D_32 hd.1 hd.2 rfl imD_link seD_link_D (by decide) (by decide) rfl rfl (Nat.le_of_ble_eq_true rfl) (Nat.le_of_ble_eq_true rfl) (Nat.le_of_eq (Nat.zero_add _)) (Nat.le_of_eq (Nat.zero_add _)) (k_link1 (r := none) hd hxb (fun h41 e41 => ?_))
      have s41 : h41.2.2 = h.2.2 := by (rw [e41]; rfl)
      have t41 : h41.1 = h.1 := by (rw [e41]; rfl)
      have ha41 : g_0 G ≤ ad y ∧ ad y < h41.2.2 := by (rw [s41]; exact hye.1)
      have hka41 : (h41.1 (ad y)).1 = 2 ∨ (h41.1 (ad y)).1 = 3 := by (rw [t41]; exact hye.2)
      first | refine V.aload_n dD_release_40 rfl ?_ | refine V.aload_nN dD_release_40 rfl ?_
      refine V.null dD_release_41 ?_
      refine V.putk dD_release_42 ha41 rfl (pE p_D_21_2 p_D_21_3 hka41) rfl rfl ?_
      intro h46 e46
      have s46 : h46.2.2 = h.2.2 := by (rw [e46]; exact s41)
      have t46 : h46.1 = h.1 := by (rw [e46]; exact t41)
      have ha46 : g_0 G ≤ ad y ∧ ad y < h46.2.2 := by (rw [s46]; exact hye.1)
      have hka46 : (h46.1 (ad y)).1 = 2 ∨ (h46.1 (ad y)).1 = 3 := by (rw [t46]; exact hye.2)
      first | refine V.aload_n dD_release_45 rfl ?_ | refine V.aload_nN dD_release_45 rfl ?_
      refine V.null dD_release_46 ?_
      refine V.putk dD_release_47 ha46 rfl (pE p_D_36_2 p_D_36_3 hka46) rfl rfl ?_
      intro h51 e51
      have s51 : h51.2.2 = h.2.2 := by (rw [e51]; exact s46)
      have t51 : h51.1 = h.1 := by (rw [e51]; exact t46)
      have hd51 : g_0 G ≤ d ∧ d < h51.2.2 := by (rw [s51]; exact hd.1)
      have hkd51 : (h51.1 d).1 = 2 := by (rw [t51]; exact hd.2)
      have hz51 : h51.2.1 d 4 = .int (nI (l1 ++ y :: l2).length) := by (rw [e51, e46, e41, hp_a hdy, hp_a hdy]; exact (hp_a (fun z => (hx _ hxm) z.symm)).trans hz)
      first | refine V.aload_n dD_release_50 rfl ?_ | refine V.aload_nN dD_release_50 rfl ?_
      refine V.dup dD_release_51 rfl ?_
      refine V.getk dD_release_52 hd51 hkd51 f_D_13_2 hz51 ?_
      refine V.iconst (v := (nI 1)) dD_release_55 (by decide) ?_
      have hln : 1 ≤ (l1 ++ y :: l2).length := by (rw [List.length_append, List.length_cons]; omega)
      refine V.isubN dD_release_56 (by omega) ?_
      refine V.putk dD_release_57 hd51 hkd51 p_D_13_2 rfl rfl ?_
      intro h61 e61
      refine V.vreturn dD_release_60 rfl ?_
      refine hQ h61 ?_
      subst hls
      rw [List.append_assoc] at hl hx e61 hiy ⊢
      rw [List.append_assoc]
      exact RL.of1 hl e9 hx hiy hi0 (by rw [e61, e51, e46, e41]; rfl)
    · first | refine V.aload_n dD_release_31 rfl ?_ | refine V.aload_nN dD_release_31 rfl ?_
      first | refine V.aload_n dD_release_32 rfl ?_ | refine V.aload_nN dD_release_32 rfl ?_
      first | refine V.aload_n dD_release_33 rfl ?_ | refine V.aload_nN dD_release_33 rfl ?_
      refine V.getk dD_release_34 hye.1 rfl (fE f_D_21_2 f_D_21_3 hye.2) e9 ?_
      refine V.callVk (kd := 2) 0 _ 0 _ [_, _] dD_release_37 okD_link n_D_32 hd.1 hd.2 rfl imD_link seD_link_D (by decide) (by decide) rfl rfl (Nat.le_of_ble_eq_true rfl) (Nat.le_of_ble_eq_true rfl) (Nat.le_of_eq (Nat.zero_add _)) (Nat.le_of_eq (Nat.zero_add _)) (k_link1 (r := (some b9)) hd hxb (fun h41 e41 => ?_))
      have s41 : h41.2.2 = h.2.2 := by (rw [e41]; rfl)
      have t41 : h41.1 = h.1 := by (rw [e41]; rfl)
      have ha41 : g_0 G ≤ ad y ∧ ad y < h41.2.2 := by (rw [s41]; exact hye.1)
      have hka41 : (h41.1 (ad y)).1 = 2 ∨ (h41.1 (ad y)).1 = 3 := by (rw [t41]; exact hye.2)
      first | refine V.aload_n dD_release_40 rfl ?_ | refine V.aload_nN dD_release_40 rfl ?_
      refine V.null dD_release_41 ?_
      refine V.putk dD_release_42 ha41 rfl (pE p_D_21_2 p_D_21_3 hka41) rfl rfl ?_
      intro h46 e46
      have s46 : h46.2.2 = h.2.2 := by (rw [e46]; exact s41)
      have t46 : h46.1 = h.1 := by (rw [e46]; exact t41)
      have ha46 : g_0 G ≤ ad y ∧ ad y < h46.2.2 := by (rw [s46]; exact hye.1)
      have hka46 : (h46.1 (ad y)).1 = 2 ∨ (h46.1 (ad y)).1 = 3 := by (rw [t46]; exact hye.2)
      first | refine V.aload_n dD_release_45 rfl ?_ | refine V.aload_nN dD_release_45 rfl ?_
      refine V.null dD_release_46 ?_
      refine V.putk dD_release_47 ha46 rfl (pE p_D_36_2 p_D_36_3 hka46) rfl rfl ?_
      intro h51 e51
      have s51 : h51.2.2 = h.2.2 := by (rw [e51]; exact s46)
      have t51 : h51.1 = h.1 := by (rw [e51]; exact t46)
      have hd51 : g_0 G ≤ d ∧ d < h51.2.2 := by (rw [s51]; exact hd.1)
      have hkd51 : (h51.1 d).1 = 2 := by (rw [t51]; exact hd.2)
      have hz51 : h51.2.1 d 4 = .int (nI (l1 ++ y :: l2).length) := by (rw [e51, e46, e41, hp_a hdy, hp_a hdy]; exact (hp_a (fun z => (hx _ hxm) z.symm)).trans hz)
      first | refine V.aload_n dD_release_50 rfl ?_ | refine V.aload_nN dD_release_50 rfl ?_
      refine V.dup dD_release_51 rfl ?_
      refine V.getk dD_release_52 hd51 hkd51 f_D_13_2 hz51 ?_
      refine V.iconst (v := (nI 1)) dD_release_55 (by decide) ?_
      have hln : 1 ≤ (l1 ++ y :: l2).length := by (rw [List.length_append, List.length_cons]; omega)
      refine V.isubN dD_release_56 (by omega) ?_
      refine V.putk dD_release_57 hd51 hkd51 p_D_13_2 rfl rfl ?_
      intro h61 e61
      refine V.vreturn dD_release_60 rfl ?_
      refine hQ h61 ?_
      subst hls
      rw [List.append_assoc] at hl hx e61 hiy ⊢
      rw [List.append_assoc]
      exact RL.of1 hl e9 hx hiy hi0 (by rw [e61, e51, e46, e41]; rfl)
  have loop1 : ∀ m l0 x0 v, l1 = l0 ++ x0 :: m → lnk ad h v (m ++ y :: l2) → V G mD_release 7 [(3, v), (2, .ref (ad x0)), (0, .ref d), (1, .ref (ad y))] [] h 0 0 Q := by
    intro m
    induction m with
    | nil =>
      intro l0 x0 v hls hv
      obtain rfl : v = .ref (ad y) := hv.1
      first | refine V.aload_n dD_release_7 rfl ?_ | refine V.aload_nN dD_release_7 rfl ?_
      refine V.ifnull dD_release_8 ?_
      first | refine V.aload_n dD_release_11 rfl ?_ | refine V.aload_nN dD_release_11 rfl ?_
      first | refine V.aload_n dD_release_12 rfl ?_ | refine V.aload_nN dD_release_12 rfl ?_
      refine V.acmp_eq (tgt := 26) (rx := some (ad y)) (ry := some (ad y)) dD_release_13 (by decide) (fun c_13 => ?_) (fun c_13 => ?_)
      · skip
        first | refine V.aload_n dD_release_26 rfl ?_ | refine V.aload_nN dD_release_26 rfl ?_
        refine V.ifnonnull (tgt := 31) dD_release_27 (by decide) ?_
        exact fin1 l0 x0 hls
      · skip
        exact absurd rfl c_13
    | cons x m ih =>
      intro l0 x0 v hls hv
      obtain rfl : v = .ref (ad x) := hv.1
      have hxm : x ∈ l1 ++ y :: l2 := by (rw [hls]; exact List.mem_append_left _ (List.mem_append_right _ (List.mem_cons_of_mem _ List.mem_cons_self)))
      have hex := hN x hxm
      have hxy : ad x ≠ ad y := hiy x (by rw [hls]; exact List.mem_append_left _ (List.mem_append_right _ (List.mem_cons_of_mem _ List.mem_cons_self)))
      obtain ⟨b9, e9⟩ := lnk_ne hv.2
      first | refine V.aload_n dD_release_7 rfl ?_ | refine V.aload_nN dD_release_7 rfl ?_
      refine V.ifnull dD_release_8 ?_
      first | refine V.aload_n dD_release_11 rfl ?_ | refine V.aload_nN dD_release_11 rfl ?_
      first | refine V.aload_n dD_release_12 rfl ?_ | refine V.aload_nN dD_release_12 rfl ?_
      refine V.acmp_eq (tgt := 26) (rx := some (ad x)) (ry := some (ad y)) dD_release_13 (by decide) (fun c_13 => ?_) (fun c_13 => ?_)
      · skip
        exact absurd (Option.some.inj c_13) hxy
      · skip
        first | refine V.aload_n dD_release_16 rfl ?_ | refine V.aload_nN dD_release_16 rfl ?_
        first | refine V.astore_n dD_release_17 (by decide) ?_ | refine V.astore_nN dD_release_17 (by decide) ?_
        first | refine V.aload_n dD_release_18 rfl ?_ | refine V.aload_nN dD_release_18 rfl ?_
        refine V.getk dD_release_19 hex.1 rfl (fE f_D_21_2 f_D_21_3 hex.2) e9 ?_
        first | refine V.astore_n dD_release_22 (by decide) ?_ | refine V.astore_nN dD_release_22 (by decide) ?_
        refine V.goto (tgt := 7) dD_release_23 (by decide) ?_
        exact V.re [3, 2, 0, 1] rfl (ih (l0 ++ [x0]) x _ (by rw [hls, List.append_assoc]; rfl) (by rw [← e9]; exact hv.2))
  obtain ⟨b3, e3⟩ := lnk_ne hl
  cases l1 with
  | nil =>
    obtain rfl : b3 = ad y := Value.ref.inj (e3.symm.trans hl.1)
    refine V.null dD_release_0 ?_
    first | refine V.astore_n dD_release_1 (by decide) ?_ | refine V.astore_nN dD_release_1 (by decide) ?_
    first | refine V.aload_n dD_release_2 rfl ?_ | refine V.aload_nN dD_release_2 rfl ?_
    refine V.getk dD_release_3 hd.1 hd.2 f_D_7_2 e3 ?_
    first | refine V.astore_n dD_release_6 (by decide) ?_ | refine V.astore_nN dD_release_6 (by decide) ?_
    first | refine V.aload_n dD_release_7 rfl ?_ | refine V.aload_nN dD_release_7 rfl ?_
    refine V.ifnull dD_release_8 ?_
    first | refine V.aload_n dD_release_11 rfl ?_ | refine V.aload_nN dD_release_11 rfl ?_
    first | refine V.aload_n dD_release_12 rfl ?_ | refine V.aload_nN dD_release_12 rfl ?_
    refine V.acmp_eq (tgt := 26) (rx := some (ad y)) (ry := some (ad y)) dD_release_13 (by decide) (fun c_13 => ?_) (fun c_13 => ?_)
    · skip
      first | refine V.aload_n dD_release_26 rfl ?_ | refine V.aload_nN dD_release_26 rfl ?_
      refine V.ifnonnull (tgt := 31) dD_release_27 (by decide) ?_
      exact V.re [3, 2, 0, 1] rfl (fin0 rfl)
    · skip
      exact absurd rfl c_13
  | cons x m =>
    obtain rfl : b3 = ad x := Value.ref.inj (e3.symm.trans hl.1)
    have hex := hN x List.mem_cons_self
    have hxy : ad x ≠ ad y := hiy x List.mem_cons_self
    obtain ⟨b9, e9⟩ := lnk_ne hl.2
    refine V.null dD_release_0 ?_
    first | refine V.astore_n dD_release_1 (by decide) ?_ | refine V.astore_nN dD_release_1 (by decide) ?_
    first | refine V.aload_n dD_release_2 rfl ?_ | refine V.aload_nN dD_release_2 rfl ?_
    refine V.getk dD_release_3 hd.1 hd.2 f_D_7_2 e3 ?_
    first | refine V.astore_n dD_release_6 (by decide) ?_ | refine V.astore_nN dD_release_6 (by decide) ?_
    first | refine V.aload_n dD_release_7 rfl ?_ | refine V.aload_nN dD_release_7 rfl ?_
    refine V.ifnull dD_release_8 ?_
    first | refine V.aload_n dD_release_11 rfl ?_ | refine V.aload_nN dD_release_11 rfl ?_
    first | refine V.aload_n dD_release_12 rfl ?_ | refine V.aload_nN dD_release_12 rfl ?_
    refine V.acmp_eq (tgt := 26) (rx := some (ad x)) (ry := some (ad y)) dD_release_13 (by decide) (fun c_13 => ?_) (fun c_13 => ?_)
    · skip
      exact absurd (Option.some.inj c_13) hxy
    · skip
      first | refine V.aload_n dD_release_16 rfl ?_ | refine V.aload_nN dD_release_16 rfl ?_
      first | refine V.astore_n dD_release_17 (by decide) ?_ | refine V.astore_nN dD_release_17 (by decide) ?_
      first | refine V.aload_n dD_release_18 rfl ?_ | refine V.aload_nN dD_release_18 rfl ?_
      refine V.getk dD_release_19 hex.1 rfl (fE f_D_21_2 f_D_21_3 hex.2) e9 ?_
      first | refine V.astore_n dD_release_22 (by decide) ?_ | refine V.astore_nN dD_release_22 (by decide) ?_
      refine V.goto (tgt := 7) dD_release_23 (by decide) ?_
      exact V.re [3, 2, 0, 1] rfl (loop1 m [] x _ rfl (by rw [← e9]; exact hl.2))
set_option maxHeartbeats 4000000 in
set_option maxRecDepth 100000 in
/-- Directory.depth -/
theorem k_depth {G : GG} {h : HH} {ad dp par : Nat → Nat} {hand : Nat} {Dr : Nat → Prop} {Q : Option Value → HH → Prop} (hD : ∀ e, Dr e → (g_0 G ≤ ad e ∧ ad e < h.2.2) ∧ (h.1 (ad e)).1 = 2 ∧ ((e = 0 ∧ h.2.1 (ad e) 1 = .null) ∨ (e ≠ 0 ∧ h.2.1 (ad e) 1 = .ref (ad (par e)) ∧ Dr (par e) ∧ dp e = dp (par e) + 1))) (hd0 : dp 0 = 0) (hh : Dr hand) (hQ : Q (some (.int (nI (dp hand)))) h) : V G mD_depth 0 (lv_args 0 [.ref (ad hand)]) [] h 0 0 Q := by
  have loop : ∀ n e, dp e = n → Dr e → ∀ k, k + n + 1 = dp hand → V G mD_depth 7 [(2, .ref (ad e)), (1, .int (nI k)), (0, .ref (ad hand))] [] h 0 0 Q := by
    intro n
    induction n with
    | zero =>
      intro e hn he k hk
      obtain ⟨h1, h2, h3 | h3⟩ := hD e he
      · have hq : k + 1 = dp hand := by omega
        have h4 := h3.2
        first | refine V.aload_n dD_depth_7 rfl ?_ | refine V.aload_nN dD_depth_7 rfl ?_
        refine V.ifnull dD_depth_8 ?_
        refine V.iincN dD_depth_11 rfl (by decide) ?_
        first | refine V.aload_n dD_depth_14 rfl ?_ | refine V.aload_nN dD_depth_14 rfl ?_
        refine V.getk dD_depth_15 h1 h2 f_D_24_2 h4 ?_
        first | refine V.astore_n dD_depth_18 (by decide) ?_ | refine V.astore_nN dD_depth_18 (by decide) ?_
        refine V.goto (tgt := 7) dD_depth_19 (by decide) ?_
        first | refine V.aload_n dD_depth_7 rfl ?_ | refine V.aload_nN dD_depth_7 rfl ?_
        refine V.ifnullN (tgt := 22) dD_depth_8 (by decide) ?_
        refine V.iload_n dD_depth_22 rfl ?_
        refine V.ireturn dD_depth_23 rfl rfl ?_
        rw [hq]
        exact hQ
      · omega
    | succ n ih =>
      intro e hn he k hk
      obtain ⟨h1, h2, h3 | h3⟩ := hD e he
      · rw [h3.1] at hn; omega
      · have h4 := h3.2.1
        first | refine V.aload_n dD_depth_7 rfl ?_ | refine V.aload_nN dD_depth_7 rfl ?_
        refine V.ifnull dD_depth_8 ?_
        refine V.iincN dD_depth_11 rfl (by decide) ?_
        first | refine V.aload_n dD_depth_14 rfl ?_ | refine V.aload_nN dD_depth_14 rfl ?_
        refine V.getk dD_depth_15 h1 h2 f_D_24_2 h4 ?_
        first | refine V.astore_n dD_depth_18 (by decide) ?_ | refine V.astore_nN dD_depth_18 (by decide) ?_
        refine V.goto (tgt := 7) dD_depth_19 (by decide) ?_
        exact V.re [2, 1, 0] rfl (ih (par e) (by omega) h3.2.2.1 (k + 1) (by omega))
  obtain ⟨h1, h2, h3 | h3⟩ := hD hand hh
  · have h4 := h3.2
    have h5 : dp hand = 0 := by (rw [h3.1]; exact hd0)
    refine V.iconst (v := (nI 0)) dD_depth_0 (by decide) ?_
    refine V.istore_n dD_depth_1 (by decide) ?_
    first | refine V.aload_n dD_depth_2 rfl ?_ | refine V.aload_nN dD_depth_2 rfl ?_
    refine V.getk dD_depth_3 h1 h2 f_D_24_2 h4 ?_
    first | refine V.astore_n dD_depth_6 (by decide) ?_ | refine V.astore_nN dD_depth_6 (by decide) ?_
    first | refine V.aload_n dD_depth_7 rfl ?_ | refine V.aload_nN dD_depth_7 rfl ?_
    refine V.ifnullN (tgt := 22) dD_depth_8 (by decide) ?_
    refine V.iload_n dD_depth_22 rfl ?_
    refine V.ireturn dD_depth_23 rfl rfl ?_
    rw [← h5]
    exact hQ
  · have h4 := h3.2.1
    refine V.iconst (v := (nI 0)) dD_depth_0 (by decide) ?_
    refine V.istore_n dD_depth_1 (by decide) ?_
    first | refine V.aload_n dD_depth_2 rfl ?_ | refine V.aload_nN dD_depth_2 rfl ?_
    refine V.getk dD_depth_3 h1 h2 f_D_24_2 h4 ?_
    first | refine V.astore_n dD_depth_6 (by decide) ?_ | refine V.astore_nN dD_depth_6 (by decide) ?_
    exact V.re [2, 1, 0] rfl (loop (dp (par hand)) (par hand) rfl h3.2.2.1 0 (by omega))
