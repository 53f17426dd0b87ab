/-! the last name of a path -/
theorem s_last_no (p : Nat → Nat) : ∀ n j, s_last p n ≤ j → j < n → p j ≠ 47
  | 0, j, _, h => by omega
  | n + 1, j, h1, h2 => by
    unfold s_last at h1
    split at h1
    · omega
    · next hp =>
      by_cases z : j = n
      · rw [z]; exact hp
      · exact s_last_no p n j h1 (by omega)
theorem s_w_no {T : TT} {p : Nat → Nat} : ∀ (r x f e : Nat), (∀ j, x ≤ j → j < x + r → p j ≠ 47) → s_w T p r x f e = s_along T p e f (x + r)
  | 0, x, f, e, _ => rfl
  | r + 1, x, f, e, h => by
    unfold s_w
    rw [if_neg (h x (by omega) (by omega)), s_w_no r (x + 1) f e (fun j h1 h2 => h j (by omega) (by omega)), show x + 1 + r = x + (r + 1) by omega]
theorem s_w_s {T : TT} {p : Nat → Nat} (r x f e : Nat) : s_w T p (r + 1) x f e = if p x = 47 then (match s_along T p e f x with | none => none | some e' => s_w T p r (x + 1) (x + 1) e') else s_w T p r (x + 1) f e := rfl
theorem s_w_cut {T : TT} {p : Nat → Nat} (r2 : Nat) : ∀ (r x f e : Nat), p (x + r) = 47 → s_w T p (r + (r2 + 1)) x f e = (match s_w T p r x f e with | none => none | some e2 => s_w T p r2 (x + r + 1) (x + r + 1) e2)
  | 0, x, f, e, h => by
    rw [Nat.zero_add]
    rw [Nat.add_zero] at h
    show (if p x = 47 then _ else _) = _
    rw [if_pos h]
    rfl
  | r + 1, x, f, e, h => by
    rw [show r + 1 + (r2 + 1) = (r + (r2 + 1)) + 1 by omega]
    rw [s_w_s (r + (r2 + 1)) x f e, s_w_s r x f e]
    have h2 : p (x + 1 + r) = 47 := by (rw [show x + 1 + r = x + (r + 1) by omega]; exact h)
    by_cases z : p x = 47
    · rw [if_pos z, if_pos z]
      cases hq : s_along T p e f x with
      | none => rfl
      | some e3 =>
        dsimp only
        rw [s_w_cut r2 r (x + 1) (x + 1) e3 h2, show x + 1 + r + 1 = x + (r + 1) + 1 by omega]
    · rw [if_neg z, if_neg z, s_w_cut r2 r (x + 1) f e h2, show x + 1 + r + 1 = x + (r + 1) + 1 by omega]
theorem s_lead0_last {T : TT} {p : Nat → Nat} {hand len d : Nat} (hl : 1 ≤ len) (hh : s_home T p hand len = some d) : s_lead0 T p hand len = s_along T p d (s_last p len) len := by
  have hle := s_last_le p len
  have hno := s_last_no p len
  unfold s_home at hh
  by_cases z : s_last p len = 0
  · rw [if_pos z] at hh
    cases hh
    rw [z] at hno ⊢
    unfold s_lead0
    rw [if_neg (hno 0 (by omega) (by omega)), s_w_no _ _ _ _ (fun j h1 h2 => hno j (by omega) (by omega)), Nat.zero_add]
  · rw [if_neg z] at hh
    have hs := s_last_slash p len (by omega)
    have e1 : len = (s_last p len - 1) + ((len - s_last p len) + 1) := by omega
    have h9 := s_w_cut (T := T) (p := p) (len - s_last p len) (s_last p len - 1) 0 0 (if p 0 = 47 then 0 else hand) (by rw [Nat.zero_add]; exact hs)
    rw [← e1] at h9
    have h8 : s_lead0 T p hand (s_last p len - 1) = some d := by
      cases hq : s_lead0 T p hand (s_last p len - 1) with
      | none => rw [hq] at hh; cases hh
      | some e2 =>
        rw [hq] at hh
        unfold s_dir at hh
        dsimp only at hh
        split at hh
        · exact hh
        · cases hh
    unfold s_lead0 at h8 ⊢
    rw [h9, h8]
    dsimp only
    rw [s_w_no _ _ _ _ (fun j h1 h2 => hno j (by omega) (by omega))]
    congr 1 <;> omega
theorem s_can_lead {T : TT} {p : Nat → Nat} {hand len ents d : Nat} (hd : T.1 d = 2) (h : s_can T p hand len ents = some d) : s_lead T p hand len = none := by
  obtain ⟨h1, h2, h3, h4⟩ := s_can_home h
  have hle := s_last_le p len
  have hl : 1 ≤ len := by (have := h2.1; omega)
  have h5 := s_lead0_last hl h1
  have h6 : s_along T p d (s_last p len) len = none := by
    unfold s_along
    rw [if_neg (by have := h2.1; omega), if_neg (by omega), if_neg h2.2.2.1, if_neg h2.2.2.2]
    exact h4
  unfold s_lead
  rw [if_neg (by omega), h5, h6]
/-! what the calls keep of the numbers -/
def WF (T : TT) (ents : Nat) (bl : List (Nat × Nat)) (dp : Nat → Nat) (k : Nat) : Prop := ents = s_many T ∧ (∀ q ∈ bl, T.1 q.2 = 1) ∧ (dp 0 = 0 ∧ (∀ e, e < 300 → T.1 e = 2 → e ≠ 0 → T.1 (T.2.1 e) = 2 ∧ dp e = dp (T.2.1 e) + 1) ∧ ∀ e, dp e ≤ k) ∧ bl.length ≤ 8 * k
section WFS
variable {T : TT} {ents k : Nat} {bl : List (Nat × Nat)} {dp : Nat → Nat} {p : Nat → Nat} {len : Nat}
theorem WF.up (hW : WF T ents bl dp k) : WF T ents bl dp (k + 1) := ⟨hW.1, hW.2.1, ⟨hW.2.2.1.1, hW.2.2.1.2.1, fun e => Nat.le_succ_of_le (hW.2.2.1.2.2 e)⟩, by have := hW.2.2.2; omega⟩
theorem WF.sp (hW : WF T ents bl dp k) : ∀ e, e < 300 → T.1 e = 2 → e ≠ 0 → T.2.1 e ≠ e := fun e he h2 h0 z => by
  have h3 := (hW.2.2.1.2.1 e he h2 h0).2
  rw [z] at h3
  omega
theorem WF.ents_ (hW : WF T ents bl dp k) (h0 : T.1 0 = 2) : 1 ≤ ents ∧ ents ≤ 300 := by
  have h1 := s_cnt_le (fun e => decide (T.1 e ≠ 0)) 300
  have h2 := s_cnt_pos (f := fun e => decide (T.1 e ≠ 0)) (y := 0) (by simp [h0]) (n := 300) (by omega)
  have h3 := hW.1
  unfold s_many at h3
  omega
theorem WF.bk (hW : WF T ents bl dp k) : ∀ q ∈ bl, T.1 q.2 ≠ 0 := fun q hq => by rw [hW.2.1 q hq]; omega
theorem many_new {y w : Nat} (hy : y < 300) (h0 : T.1 y = 0) (hw : w ≠ 0) {T' : TT} (hT : T'.1 = fu T.1 y w) : s_many T' = s_many T + 1 := by
  unfold s_many
  rw [hT]
  exact s_cnt_up (f := fun e => decide (T.1 e ≠ 0)) (g := fun e => decide (fu T.1 y w e ≠ 0)) (y := y) (by simp [h0]) (by simp [fu_s, hw]) (fun e he => by simp [fu_n he]) hy
theorem many_rem {y : Nat} (hy : y < 300) (h0 : T.1 y ≠ 0) : s_many (fu T.1 y 0, T.2) = s_many T - 1 := by
  have h1 := s_cnt_up (f := fun e => decide (fu T.1 y 0 e ≠ 0)) (g := fun e => decide (T.1 e ≠ 0)) (y := y) (by simp [fu_s]) (by simp [h0]) (fun e he => by simp [fu_n he]) hy
  unfold s_many
  show s_cnt (fun e => decide (fu T.1 y 0 e ≠ 0)) 300 = _
  omega
theorem WF.new2 {y d : Nat} (hW : WF T ents bl dp k) (hy : 1 ≤ y ∧ y < 300) (h0 : T.1 y = 0) (hd2 : T.1 d = 2) : WF (s_new T y 2 d p len) (ents + 1) bl (fu dp y (dp d + 1)) (k + 1) := by
  obtain ⟨w1, w2, ⟨w3, w4, w5⟩, w6⟩ := hW
  have hdy : d ≠ y := fun z => by (rw [z] at hd2; omega)
  refine ⟨by rw [w1]; exact (many_new hy.2 h0 (by omega) rfl).symm, fun q hq => ?_, ⟨(fu_n (by omega)).trans w3, fun e he h2 hne => ?_, fun e => ?_⟩, by omega⟩
  · have h9 := w2 q hq
    exact (fu_n (fun z => by (rw [z] at h9; omega))).trans h9
  · have h2 : fu T.1 y 2 e = 2 := h2
    show fu T.1 y 2 (fu T.2.1 y d e) = 2 ∧ fu dp y (dp d + 1) e = fu dp y (dp d + 1) (fu T.2.1 y d e) + 1
    by_cases z : e = y
    · subst z
      rw [fu_s, fu_s, fu_n hdy, fu_n hdy]
      exact ⟨hd2, rfl⟩
    · rw [fu_n z] at h2
      have h9 := w4 e he h2 hne
      have hpy : T.2.1 e ≠ y := fun q => by (rw [q] at h9; omega)
      rw [fu_n z, fu_n z, fu_n hpy, fu_n hpy]
      exact h9
  · by_cases z : e = y
    · rw [z, fu_s]; have := w5 d; omega
    · rw [fu_n z]; have := w5 e; omega
theorem WF.new1 {y d : Nat} (hW : WF T ents bl dp k) (hy : 1 ≤ y ∧ y < 300) (h0 : T.1 y = 0) : WF (s_new T y 1 d p len) (ents + 1) bl dp (k + 1) := by
  obtain ⟨w1, w2, ⟨w3, w4, w5⟩, w6⟩ := hW
  refine ⟨by rw [w1]; exact (many_new hy.2 h0 (by omega) rfl).symm, fun q hq => ?_, ⟨w3, fun e he h2 hne => ?_, fun e => Nat.le_succ_of_le (w5 e)⟩, by omega⟩
  · have h9 := w2 q hq
    exact (fu_n (fun z => by (rw [z] at h9; omega))).trans h9
  · have h2 : fu T.1 y 1 e = 2 := h2
    show fu T.1 y 1 (fu T.2.1 y d e) = 2 ∧ dp e = dp (fu T.2.1 y d e) + 1
    have z : e ≠ y := fun z => by (rw [z, fu_s] at h2; omega)
    rw [fu_n z] at h2
    have h9 := w4 e he h2 hne
    have hpy : T.2.1 e ≠ y := fun q => by (rw [q] at h9; omega)
    rw [fu_n z, fu_n hpy]
    exact h9
theorem WF.rem {y : Nat} (hW : WF T ents bl dp k) (hy : y < 300) (h1 : T.1 y = 1) : WF (fu T.1 y 0, T.2) (ents - 1) (s_but bl y) dp (k + 1) := by
  obtain ⟨w1, w2, ⟨w3, w4, w5⟩, w6⟩ := hW
  refine ⟨by rw [w1]; exact (many_rem hy (by omega)).symm, fun q hq => ?_, ⟨w3, fun e he h2 hne => ?_, fun e => Nat.le_succ_of_le (w5 e)⟩, ?_⟩
  · have h9 := but_mem hq
    exact (fu_n h9.2).trans (w2 q h9.1)
  · have h2 : fu T.1 y 0 e = 2 := h2
    show fu T.1 y 0 (T.2.1 e) = 2 ∧ dp e = dp (T.2.1 e) + 1
    have z : e ≠ y := fun z => by (rw [z, fu_s] at h2; omega)
    rw [fu_n z] at h2
    have h9 := w4 e he h2 hne
    have hpy : T.2.1 e ≠ y := fun q => by (rw [q] at h9; omega)
    rw [fu_n hpy]
    exact h9
  · have := but_len bl y; omega
theorem WF.but {e : Nat} (hW : WF T ents bl dp k) : WF T ents (s_but bl e) dp (k + 1) := by
  obtain ⟨w1, w2, ⟨w3, w4, w5⟩, w6⟩ := hW
  exact ⟨w1, fun q hq => w2 q (but_mem hq).1, ⟨w3, w4, fun e => Nat.le_succ_of_le (w5 e)⟩, by have := but_len bl e; omega⟩
theorem bs_own (c : Int64) (e : Nat) : ∀ m, ∀ q ∈ s_bs c e m, q.2 = e
  | 0, q, hq => absurd hq List.not_mem_nil
  | m + 1, q, hq => by
    rcases List.mem_cons.mp hq with z | z
    · rw [z]
    · exact bs_own c e m q z
theorem WF.bs {e m : Nat} {c : Int64} (hW : WF T ents bl dp k) (h1 : T.1 e = 1) (hm : m ≤ 8) : WF T ents (bl ++ s_bs c e m) dp (k + 1) := by
  obtain ⟨w1, w2, ⟨w3, w4, w5⟩, w6⟩ := hW
  refine ⟨w1, fun q hq => ?_, ⟨w3, w4, fun e => Nat.le_succ_of_le (w5 e)⟩, by rw [List.length_append, s_bs_len]; omega⟩
  rcases List.mem_append.mp hq with z | z
  · exact w2 q z
  · rw [bs_own c e m q z]; exact h1
/-- a file's place is another -/
theorem WF.place {f d : Nat} {T' : TT} (hW : WF T ents bl dp k) (h1 : T.1 f = 1) (hT : T'.1 = T.1) (hP : T'.2.1 = fu T.2.1 f d) : WF T' ents bl dp k := by
  obtain ⟨w1, w2, ⟨w3, w4, w5⟩, w6⟩ := hW
  refine ⟨by unfold s_many; rw [hT]; exact w1, fun q hq => by rw [hT]; exact w2 q hq, ⟨w3, fun e he h2 hne => ?_, w5⟩, w6⟩
  rw [hT] at h2
  rw [hT, hP]
  have z : e ≠ f := fun z => by (rw [z] at h2; omega)
  rw [fu_n z]
  exact w4 e he h2 hne
theorem WF.mv {f : Nat} {q : Nat × Bool} {r : Option Nat} (hW : WF T ents bl dp k) (h1 : T.1 f = 1) (hr : ∀ t, r = some t → t < 300 ∧ T.1 t ≠ 0) (hok : s_mok T f r) (hk : ∀ e, e < 300 → T.1 e ≤ 2) : WF (s_mN (s_mT T r) f q p len) (s_mE ents r) (s_mB bl r) dp (k + 1) := by
  have key : WF (s_mT T r) (s_mE ents r) (s_mB bl r) dp (k + 1) := by
    cases r with
    | none => exact hW.up
    | some t =>
      have h2 := hr t rfl
      have h3 := hok.2 t rfl
      have h4 := hk t h2.1
      exact hW.rem h2.1 (by omega)
  have hf : (s_mT T r).1 f = 1 := by
    cases r with
    | none => exact h1
    | some t => exact (fu_n (fun z => hok.1 (by rw [z]))).trans h1
  rcases hq : q with ⟨d, b⟩
  cases b with
  | true => exact key.place (d := d) hf rfl rfl
  | false => exact key.place (d := d) hf rfl rfl
end WFS
/-- what the reference does leaves the class's objects -/
theorem CI.fro {G : GG} {h h' : HH} {x o : Nat} {T : TT} {p : Nat → Nat} {len hand : Nat} {op : Option Nat} {gone : Bool} {bl : List (Nat × Nat)} {ad na : Nat → Nat} {ch : Nat → List Nat} {ba cp : Nat → Nat} {ga gb gc : Nat} (hI : CI G h x o T p len hand op gone bl ad na ch ba cp ga gb gc) (hf : FrO o h h') : CI G h' x o T p len hand op gone bl ad na ch ba cp ga gb gc := by
  obtain ⟨hNK, hP, hO, hX, hC, hB⟩ := id hI
  obtain ⟨ht, htk, hca, hln, hcs, hck, hch, hl2, hp⟩ := id hX
  have a1 := hP.1
  have a2 := hP.2.1
  have hF : FK (fun b _ => o ≤ b ∧ b ≤ o + 8) h h' := FK.of hf.1 hf.2.1 (fun b j hn => hf.2.2 b j (by omega))
  have hk : ∀ b, o ≤ b ∧ b ≤ o + 8 → 4 ≤ (h.1 b).1 ∧ (h.1 b).1 ≠ 101 ∧ ((h.1 b).1 = 102 → b = o + 7) := fun b z => hNK.2 b z.1 z.2
  refine ⟨hNK.fr hF, hP.fk hF (fun j z => by (have := hk _ z; omega)), hO.fk a1.2 hF (fun z => by (have := hk _ z; omega)) (hI.gaf (S := fun b _ => o ≤ b ∧ b ≤ o + 8) (fun b j z => by (have := hk _ z; omega))), hX.fk hF (fun j => ⟨fun z => by (have := hk _ z; omega), fun z => by (have := (hk _ z).2.1; rw [hck] at this; exact this rfl)⟩), hC.fk hF (fun b j hb z => ?_), hB.fk hF (fun b j hb z => ?_)⟩
  · have := hk _ z
    exact ⟨by omega, by omega, fun q => absurd q this.2.1⟩
  · have := hk _ z
    exact ⟨by omega, this.2.2⟩
