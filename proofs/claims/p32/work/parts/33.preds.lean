/-! PREDS: rules taken into the book -/
theorem RulesOk_rt {h h1 : Hp} {r n t : Nat} (hh : rt h n t = h1) (p : RulesOk h r) : RulesOk h1 r := by subst hh; exact p
theorem RO_of_DOk {h : Hp} {rd r cd : Nat} (p : DOk h rd) (e13 : Rv h rd 13 = r) (e17 : Rv h r 17 = cd) (lc : (Ln h cd : Int) = Iv h rd 12) : RulesOk h r := fun k hk => by
  have q := p k (by rw [e13]; exact hk)
  rw [e13] at q
  rw [e17, lc]
  exact q
theorem Bk_put {h h2 h3 : Hp} {b rd r : Nat} {n m : Int} (O : Okh h) (F : Fx [1002, 4220000] h h2) (t : Tg h b = 5) (p : BkOk h b) (e1 : Rv h b 1 = rd) (hn : Iv h b 2 = n) (hn2 : Iv h2 b 2 = m) (hm : m ≤ n + 1) (hm1 : 1 ≤ m) (hh : sR h2 rd (m - 1).toNat r = h3) (hr : ¬ r = 0) (O2 : Okh h2) (tr : Tg h2 r = 6) (ro : RulesOk h2 r) : BkOk h3 b := by
  have trd : Tg h rd = 22108 := e1 ▸ ok_R O t rE_5_1 rfl
  have trd2 : Tg h2 rd = 22108 := fxT F trd
  have tb2 : Tg h2 b = 5 := fxT F t
  have nbr : b ≠ rd := ne_tag t trd (by decide)
  have e12 : Rv h2 b 1 = rd := (fxR (T := 4) F t rfl).trans e1
  have e32 : Rv h2 b 3 = Rv h b 3 := fxR (T := 4) F t rfl
  have F3 : Fx [22108 * 200] h2 h3 := (Fx.rf (wr := [22108 * 200]) (h := h2)).pRa trd2 ar_22108 hh rfl
  have g1 : Rv h3 b 1 = rd := (pR_n hh nbr).trans e12
  have g3 : Rv h3 b 3 = Rv h b 3 := (pR_n hh nbr).trans e32
  have g2 : Iv h3 b 2 = m := (pRI hh).trans hn2
  refine ⟨fun k hk => ?_, ?_⟩
  · rw [g2] at hk
    rw [g1]
    by_cases e : k = (m - 1).toNat
    · subst e
      rw [pR_e hh]
      exact ⟨hr, RulesOk_fx O2 F3 tr rfl ro⟩
    · rw [pR_j hh e, fxRa (T := 22107) F trd ar_22108 rfl]
      have q := p.1 k (by rw [hn]; omega)
      rw [e1] at q
      have tk := ok_Na O trd ar_22108 rE_22108_0 rfl q.1
      exact ⟨q.1, RulesOk_fx O2 F3 (fxT F tk) rfl (RulesOk_fx O F tk rfl q.2)⟩
  · rw [g3]
    have t3 := ok_R O t rE_5_3 rfl
    exact RulesOk_fx O2 F3 (fxT F t3) rfl (RulesOk_fx O F t3 rfl p.2)
