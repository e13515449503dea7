/-! PREDS: constructors that write their own object alone; lists of sights and breaks that grow -/
def Fe (n : Nat) (h0 h : Hp) : Prop := ∀ m, m ≠ n → Tg h m = Tg h0 m ∧ Ln h m = Ln h0 m ∧ ∀ j, Iv h m j = Iv h0 m j ∧ Jv h m j = Jv h0 m j ∧ Rv h m j = Rv h0 m j
theorem Fe.rf {n : Nat} {h : Hp} : Fe n h h := fun _ _ => ⟨rfl, rfl, fun _ => ⟨rfl, rfl, rfl⟩⟩
theorem Fe.pI {n j : Nat} {v : Int} {h0 h h1 : Hp} (a : Fe n h0 h) (hh : sI h n j v = h1) : Fe n h0 h1 := fun m hm => by
  obtain ⟨a1, a2, a3⟩ := a m hm
  exact ⟨(pIT hh).trans a1, (pIL hh).trans a2, fun i => ⟨(pI_n hh hm).trans (a3 i).1, (pIJ hh).trans (a3 i).2.1, (pIR hh).trans (a3 i).2.2⟩⟩
theorem fe_new {n t k : Nat} {h h1 h2 : Hp} (hn : Tg h n = 0) (hh : nw h n t k = h1) (f : Fe n h1 h2) (ht : Tg h2 n = t) : Fx [1000000000 + t] h h2 := by
  refine ⟨fun m hm => ?_, fun m hm => ?_⟩
  rotate_left
  · by_cases e : m = n
    · subst e; rw [ht]; exact Or.inr (by simp)
    · left; rw [(f m e).1, pNT hh e]; exact hm
  have hne : m ≠ n := fun e => hm (by rw [e]; exact hn)
  obtain ⟨a1, a2, a3⟩ := f m hne
  exact ⟨a1.trans (pNT hh hne), a2.trans (pNL hh hne), fun j _ => ⟨(a3 j).1.trans (pNI hh hne), (a3 j).2.1.trans (pNJ hh hne), (a3 j).2.2.trans (pNR hh hne)⟩⟩
theorem SOK_set {h h1 : Hp} {a v : Nat} {n : Int} (p : SOK h a n) (hh : sR h a n.toNat v = h1) (h0 : 0 ≤ n) (hv : ¬ v = 0) (hs : SgOk h v) : SOK h1 a (n + 1) := fun k hk => by
  have e : ∀ m, SgOk h1 m ↔ SgOk h m := fun m => by unfold SgOk; rw [pRI hh, pRI hh]
  by_cases q : k = n.toNat
  · subst q; rw [pR_e hh, e]; exact ⟨hv, hs⟩
  · rw [pR_j hh q, e]; exact p k (by omega)
theorem SOK_p7 {h h1 : Hp} {a m : Nat} {n v : Int} (p : SOK h a n) (hh : sI h m 7 v = h1) (hv : 0 ≤ v) : SOK h1 a n := fun k hk => by
  rw [pIR hh]
  refine ⟨(p k hk).1, ?_⟩
  have q := (p k hk).2
  unfold SgOk at q ⊢
  rw [pI_j hh (show 8 ≠ 7 by decide)]
  by_cases e : Rv h a k = m
  · rw [e, pI_e hh]; exact fun _ => hv
  · rw [pI_n hh e]; exact q
theorem SOK_p8 {h h1 : Hp} {a m : Nat} {n v : Int} (p : SOK h a n) (hh : sI h m 8 v = h1) (hv : 0 ≤ Iv h m 7) : SOK h1 a n := fun k hk => by
  rw [pIR hh]
  refine ⟨(p k hk).1, ?_⟩
  have q := (p k hk).2
  unfold SgOk at q ⊢
  rw [pI_j hh (show 7 ≠ 8 by decide)]
  by_cases e : Rv h a k = m
  · rw [e]; exact fun _ => hv
  · rw [pI_n hh e]; exact q
theorem BOK_set {h h1 : Hp} {a v : Nat} {n : Int} (p : BOK h a n) (hh : sR h a n.toNat v = h1) (h0 : 0 ≤ n) (hv : ¬ v = 0) (hs : BreakOk h v) : BOK h1 a (n + 1) := fun k hk => by
  have e : ∀ m, BreakOk h1 m ↔ BreakOk h m := fun m => by unfold BreakOk; rw [pRI hh, pRI hh, pRI hh]
  by_cases q : k = n.toNat
  · subst q; rw [pR_e hh, e]; exact ⟨hv, hs⟩
  · rw [pR_j hh q, e]; exact p k (by omega)
