/-! PREDS: a draft of rules becomes rules -/
def DU (h : Hp) (r : Nat) : Prop := ∀ m, (Tg h m = 2006 ∨ Tg h m = 1006) → m = r
theorem DU_fx {wr : List Nat} {h h1 : Hp} {r : Nat} (F : Fx wr h h1) (w1 : wr.elem 1000002006 = false) (w2 : wr.elem 1000001006 = false) (p : DU h r) : DU h1 r := fun m hm => by
  by_cases z : Tg h m = 0
  · rcases F.2 m z with q | q
    · rw [q] at hm; exact absurd hm (by decide)
    · rcases hm with e | e
      · rw [e] at q; rw [w1] at q; exact absurd q (by decide)
      · rw [e] at q; rw [w2] at q; exact absurd q (by decide)
  · rw [(F.1 m z).1] at hm; exact p m hm
theorem DU_new {h h1 : Hp} {n k : Nat} (p : ND h) (hh : nw h n 1006 k = h1) : DU h1 n := fun m hm => by
  refine Classical.byContradiction fun e => ?_
  rw [pNT hh e] at hm
  rcases hm with q | q
  · exact (p m).1 q
  · exact (p m).2 q
theorem DU_rt {h h1 : Hp} {r t : Nat} (p : DU h r) (hh : rt h r t = h1) : DU h1 r := fun m hm => by
  refine Classical.byContradiction fun e => ?_
  rw [pTT hh e] at hm
  exact e (p m hm)
theorem ND_rt {h h1 : Hp} {r t : Nat} (p : DU h r) (hh : rt h r t = h1) (ht : ¬ t = 2006 ∧ ¬ t = 1006) : ND h1 := fun m => by
  by_cases e : m = r
  · subst e; rw [pT_T hh]; exact ht
  · rw [pTT hh e]; exact ⟨fun q => e (p m (Or.inl q)), fun q => e (p m (Or.inr q))⟩
theorem ND_rt2 {h h1 : Hp} {r t : Nat} (p : ND h) (hh : rt h r t = h1) (ht : ¬ t = 2006 ∧ ¬ t = 1006) : ND h1 := fun m => by
  by_cases e : m = r
  · subst e; rw [pT_T hh]; exact ht
  · rw [pTT hh e]; exact p m
theorem only_draft {T j : Nat} (hE : (rE T j).1 = 31100 ∨ (rE T j).1 = 33100 ∨ (rE T j).1 = 35100) : T = 2006 ∨ T = 1006 := by
  have key := look_key (d := ((0 : Nat), (0 : Nat), false)) (fun n q => (q.1 = 31100 ∨ q.1 = 33100 ∨ q.1 = 35100) → n / 200 = 2006 ∨ n / 200 = 1006) (fun n h => absurd h (by decide)) tE (by decide +kernel) (enc T j)
  have := key hE
  rw [enc_div] at this
  exact this
theorem tab_D : ∀ j, rI 6 j = rI 2006 j := tab_I (by decide +kernel)
theorem tab_DE (j : Nat) : (j = 14 ∨ j = 15 ∨ j = 16) ∨ ((rE 6 j).1 = (rE 2006 j).1 ∧ (rE 6 j).2.1 = (rE 2006 j).2.1 ∧ ((rE 6 j).2.2 = true → (rE 2006 j).2.2 = true)) := by
  have h : (List.range 200).all (fun j => decide ((j = 14 ∨ j = 15 ∨ j = 16) ∨ ((rE 6 j).1 = (rE 2006 j).1 ∧ (rE 6 j).2.1 = (rE 2006 j).2.1 ∧ ((rE 6 j).2.2 = true → (rE 2006 j).2.2 = true)))) = true := by decide +kernel
  have h1 := List.all_eq_true.mp h (min j 199) (List.mem_range.mpr (by omega))
  simp only [decide_eq_true_eq] at h1
  rcases h1 with q | q
  · left; omega
  · right
    rw [rE_min 6, rE_min 2006]
    exact q
theorem fin_rules {h h1 h2 h3 h4 : Hp} {r a14 a15 a16 : Nat} (O : Okh h) (du : DU h r) (t : Tg h r = 2006) (e14 : Rv h r 14 = a14) (e15 : Rv h r 15 = a15) (e16 : Rv h r 16 = a16) (k1 : rt h r 6 = h1) (k2 : rt h1 a14 30100 = h2) (k3 : rt h2 a15 32100 = h3) (k4 : rt h3 a16 34100 = h4) : Okh h4 := by
  have t14 : Tg h a14 = 31100 := e14 ▸ ok_R O t rE_2006_14 rfl
  have t15 : Tg h a15 = 33100 := e15 ▸ ok_R O t rE_2006_15 rfl
  have t16 : Tg h a16 = 35100 := e16 ▸ ok_R O t rE_2006_16 rfl
  have l14 : Ln h a14 = 24 := e14 ▸ ok_L O t rE_2006_14 rfl
  have l15 : Ln h a15 = 24 := e15 ▸ ok_L O t rE_2006_15 rfl
  have l16 : Ln h a16 = 24 := e16 ▸ ok_L O t rE_2006_16 rfl
  have n1 : a14 ≠ r := ne_tag t14 t (by decide)
  have n2 : a15 ≠ r := ne_tag t15 t (by decide)
  have n3 : a16 ≠ r := ne_tag t16 t (by decide)
  have n4 : a15 ≠ a14 := ne_tag t15 t14 (by decide)
  have n5 : a16 ≠ a14 := ne_tag t16 t14 (by decide)
  have n6 : a16 ≠ a15 := ne_tag t16 t15 (by decide)
  have T16 : Tg h4 a16 = 34100 := pT_T k4
  have T15 : Tg h4 a15 = 32100 := (pTT k4 (Ne.symm n6)).trans (pT_T k3)
  have T14 : Tg h4 a14 = 30100 := (pTT k4 (Ne.symm n5)).trans ((pTT k3 (Ne.symm n4)).trans (pT_T k2))
  have Tr : Tg h4 r = 6 := (pTT k4 (Ne.symm n3)).trans ((pTT k3 (Ne.symm n2)).trans ((pTT k2 (Ne.symm n1)).trans (pT_T k1)))
  have To : ∀ m, m ≠ r → m ≠ a14 → m ≠ a15 → m ≠ a16 → Tg h4 m = Tg h m := fun m q1 q2 q3 q4 => (pTT k4 q4).trans ((pTT k3 q3).trans ((pTT k2 q2).trans (pTT k1 q1)))
  have I4 : ∀ m j, Iv h4 m j = Iv h m j := fun m j => (pTI k4).trans ((pTI k3).trans ((pTI k2).trans (pTI k1)))
  have J4 : ∀ m j, Jv h4 m j = Jv h m j := fun m j => (pTJ k4).trans ((pTJ k3).trans ((pTJ k2).trans (pTJ k1)))
  have R4 : ∀ m j, Rv h4 m j = Rv h m j := fun m j => (pTR k4).trans ((pTR k3).trans ((pTR k2).trans (pTR k1)))
  have L4 : ∀ m, Ln h4 m = Ln h m := fun m => (pTL k4).trans ((pTL k3).trans ((pTL k2).trans (pTL k1)))
  have okIt : ∀ {n T T' j : Nat}, Tg h n = T → rI T' j = rI T j → okI T' j (Iv h n j) := fun {n T T' j} hn hr => by
    have q := O.2.1 n j
    rw [hn] at q
    unfold okI at q ⊢
    rw [hr]; exact q
  have arrI : ∀ {T T' : Nat}, ¬ T % 1000 < 100 → ¬ T' % 1000 < 100 → rI T' 0 = rI T 0 → ∀ j, rI T' j = rI T j := fun a b c j => (rI_arr b j).trans (c.trans (rI_arr a j).symm)
  -- a reference that is asked for keeps its tag, unless it is one of the three arrays of r
  have keep : ∀ {T j x : Nat}, okR h T j x → T ≠ 2006 → T ≠ 1006 → okR h4 T j x := fun {T j x} q hT hT2 => by
    rcases q with q | q | q
    · exact Or.inl q
    · exact Or.inr (Or.inl q)
    · by_cases z : (rE T j).1 = 0
      · exact Or.inr (Or.inl z)
      · refine Or.inr (Or.inr ⟨?_, by rw [L4]; exact q.2⟩)
        have m1 : x ≠ r := fun e => nu_2006 T j (by rw [← q.1, e]; exact t)
        have nd : ∀ E, (E = 31100 ∨ E = 33100 ∨ E = 35100) → (rE T j).1 ≠ E := fun E hE e => by
          have := only_draft (T := T) (j := j) (by rw [e]; exact hE)
          rcases this with u | u
          · exact hT u
          · exact hT2 u
        rw [To x m1 (fun e => nd 31100 (by simp) (by rw [← q.1, e]; exact t14)) (fun e => nd 33100 (by simp) (by rw [← q.1, e]; exact t15)) (fun e => nd 35100 (by simp) (by rw [← q.1, e]; exact t16))]
        exact q.1
  refine ⟨?_, fun n j => ?_, fun n j => by rw [J4]; exact O.2.2.1 n j, fun n => by rw [L4]; exact O.2.2.2.1 n, fun n j => ?_⟩
  · have z : ∀ {x T : Nat}, Tg h x = T → T ≠ 0 → (0 : Nat) ≠ x := fun hx hT e => hT (by rw [← hx, ← e]; exact O.1)
    rw [To 0 (z t (by decide)) (z t14 (by decide)) (z t15 (by decide)) (z t16 (by decide))]
    exact O.1
  · rw [I4]
    by_cases q4 : n = a16
    · subst q4; rw [T16]; exact okIt t16 (arrI ar_35100 ar_34100 (by rw [rI_34100_0, rI_35100_0]) j)
    by_cases q3 : n = a15
    · subst q3; rw [T15]; exact okIt t15 (arrI ar_33100 ar_32100 (by rw [rI_32100_0, rI_33100_0]) j)
    by_cases q2 : n = a14
    · subst q2; rw [T14]; exact okIt t14 (arrI ar_31100 ar_30100 (by rw [rI_30100_0, rI_31100_0]) j)
    by_cases q1 : n = r
    · subst q1; rw [Tr]; exact okIt t (tab_D j)
    rw [To n q1 q2 q3 q4]; exact O.2.1 n j
  · rw [R4]
    have noref : ∀ T, ¬ T % 1000 < 100 → (rE T 0).1 = 0 → okR h4 T j (Rv h n j) := fun T hT hz => Or.inr (Or.inl (by rw [rE_arr hT j]; exact hz))
    by_cases q4 : n = a16
    · subst q4; rw [T16]; exact noref _ ar_34100 (by decide +kernel)
    by_cases q3 : n = a15
    · subst q3; rw [T15]; exact noref _ ar_32100 (by decide +kernel)
    by_cases q2 : n = a14
    · subst q2; rw [T14]; exact noref _ ar_30100 (by decide +kernel)
    by_cases q1 : n = r
    · subst q1
      rw [Tr]
      rcases tab_DE j with (e | e | e) | ⟨g1, g2, g3⟩
      · subst e; rw [e14]; exact Or.inr (Or.inr ⟨by rw [T14, rE_6_14], Or.inr (by rw [L4, l14, rE_6_14])⟩)
      · subst e; rw [e15]; exact Or.inr (Or.inr ⟨by rw [T15, rE_6_15], Or.inr (by rw [L4, l15, rE_6_15])⟩)
      · subst e; rw [e16]; exact Or.inr (Or.inr ⟨by rw [T16, rE_6_16], Or.inr (by rw [L4, l16, rE_6_16])⟩)
      · have q := O.2.2.2.2 n j
        rw [t] at q
        have q6 : okR h 6 j (Rv h n j) := by
          unfold okR at q ⊢
          rw [g1, g2]
          rcases q with q | q | q
          · left
            refine ⟨q.1, ?_⟩
            cases hb : (rE 6 j).2.2 with
            | false => rfl
            | true => exact absurd q.2 (by rw [g3 hb]; decide)
          · exact Or.inr (Or.inl q)
          · exact Or.inr (Or.inr q)
        exact keep q6 (by decide) (by decide)
    rw [To n q1 q2 q3 q4]
    exact keep (O.2.2.2.2 n j) (fun e => q1 (du n (Or.inl e))) (fun e => q1 (du n (Or.inr e)))
theorem dead_rules {h h1 : Hp} {r : Nat} (O : Okh h) (t : Tg h r = 2006) (k1 : rt h r 3006 = h1) : Okh h1 := by
  subst k1
  have hE : ∀ j, (rE 3006 j).1 = 0 := fun j => by
    have h : (List.range 200).all (fun j => decide ((rE 3006 j).1 = 0)) = true := by decide +kernel
    have := List.all_eq_true.mp h (min j 199) (List.mem_range.mpr (by omega))
    rw [rE_min]
    simpa using this
  have hI : ∀ j, rI 3006 j = rI 2006 j := tab_I (by decide +kernel)
  refine O.wT (nz_of O t) (by rw [t]; exact nu_2006) (fun j => ?_) (fun j => Or.inr (Or.inl (hE j))) (fun j => Or.inr (hE j))
  have q := O.2.1 r j
  rw [t] at q
  unfold okI at q ⊢
  rw [hI j]; exact q
theorem cp_ok {h : Hp} {n T : Nat} {lo hi : Int} (O : Okh h) (t : Tg h n = T) (hT : ¬ T % 1000 < 100) (hr : rI T 0 = (lo, hi, true)) (i : Nat) : lo ≤ Iv h n i ∧ Iv h n i ≤ hi ∧ ((true : Bool) = true → Iv h n i < -20 ∨ -13 < Iv h n i) := by
  have q := ok_H O t ((rI_arr hT i).trans hr) rfl
  exact ⟨q.1, q.2.1, fun _ => q.2.2⟩
