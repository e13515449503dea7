/-! ranges of ints and tags of references, by tag and place -/
def enc (T j : Nat) : Nat := T * 200 + (if T % 1000 < 100 then min j 199 else 0)
def tI : List (Nat × Int × Int × Bool) := [(200, 0, 95, false), (201, 0, 1, false), (202, 0, 12, false), (203, (-300), 300, false), (204, (-300), 300, false), (205, 0, 99, false), (400, 0, 15, false), (401, 0, 1, false), (402, 0, 1, false), (405, 0, 1, false), (406, 0, 1, false), (200400, 0, 15, false), (200401, 0, 1, false), (200402, 0, 1, false), (200405, 0, 1, false), (200406, 0, 1, false), (608, 0, 8, false), (200608, 0, 8, false), (801, 0, 1500, false), (802, 0, 1500, false), (803, 0, 1500, false), (804, 0, 4, false), (809, 0, 1, false), (810, 0, 1, false), (812, 0, 1500, false), (200801, 0, 1500, false), (200802, 0, 1500, false), (200803, 0, 1500, false), (200804, 0, 4, false), (200809, 0, 1, false), (200810, 0, 1, false), (200812, 0, 1500, false), (1002, 0, 8, false), (201002, 0, 8, false), (1200, 0, 10, false), (1207, 0, 99, false), (1208, 0, 99, false), (1213, 0, 24, false), (201200, 0, 10, false), (201207, 0, 99, false), (201208, 0, 99, false), (201213, 0, 24, false), (401200, 0, 10, false), (401207, 0, 99, false), (401208, 0, 99, false), (401213, 0, 24, false), (601200, 0, 10, false), (601207, 0, 99, false), (601208, 0, 99, false), (601213, 0, 24, false), (1403, 0, 40, false), (1404, 0, 4, false), (1405, 0, 99, false), (1412, 0, 1, false), (201403, 0, 40, false), (201404, 0, 4, false), (201405, 0, 99, false), (201412, 0, 1, false), (1800, 0, 4, false), (1801, 0, 95, false), (1802, 0, 999, false), (1803, 0, 5, false), (1804, 0, 9999, false), (1805, 0, 9999, false), (1806, (-1), 9999, false), (1807, (-1), 3, false), (1808, (-1), 95, false), (1809, (-99), 99, false), (1810, 0, 99, false), (1811, (-1), 9, false), (1812, 0, 1, false), (1813, (-1), 23, false), (1814, (-1), 9, false), (1815, 0, 99, false), (1816, 0, 1, false), (2003, 0, 1, false), (202003, 0, 1, false), (2200, 0, 9999, false), (2201, (-1), 9999, false), (2204, 0, 40, false), (2209, 0, 4, false), (2210, 0, 999, false), (2212, 0, 10, false), (2215, 0, 1, false), (2216, 0, 1, false), (202200, 0, 9999, false), (202201, (-1), 9999, false), (202204, 0, 40, false), (202209, 0, 4, false), (202210, 0, 999, false), (202212, 0, 10, false), (202215, 0, 1, false), (202216, 0, 1, false), (2400, 0, 1, false), (2402, 0, 1500, false), (2403, 0, 1500, false), (2407, 0, 1501, false), (2408, 0, 24005, false), (2410, 0, 8, false), (2428, 0, 1600, false), (2433, 0, 9999, false), (2434, (-1), 9999, false), (2435, 0, 1, false), (2440, 0, 40, false), (2457, 0, 4, false), (2462, 0, 600, false), (2477, (-1), 15, false), (2478, 0, 16, false), (2479, 0, 999, false), (2480, 0, 10, false), (2483, 0, 8, false), (202400, 0, 1, false), (202402, 0, 1500, false), (202403, 0, 1500, false), (202407, 0, 1501, false), (202408, 0, 24005, false), (202410, 0, 8, false), (202428, 0, 1600, false), (202433, 0, 9999, false), (202434, (-1), 9999, false), (202435, 0, 1, false), (202440, 0, 40, false), (202457, 0, 4, false), (202462, 0, 600, false), (202477, (-1), 15, false), (202478, 0, 16, false), (202479, 0, 999, false), (202480, 0, 10, false), (202483, 0, 8, false), (2420000, 0, 999, false), (2620200, 0, 1, false), (2820200, 0, 1, false), (3020000, (-1), 3, false), (3220200, 0, 1, false), (3420000, 0, 95, false), (3620000, 0, 99, false), (3820600, 0, 126, false), (4020000, (-2147483648), 2147483647, true), (4220000, 0, 9999, false), (4820000, 0, 200, false), (5020000, 0, 200, false), (5620000, (-1), 9, false), (5820000, 0, 9, false), (6020000, 0, 2, false), (6220000, 0, 2, false), (6420000, 0, 99, false), (6620000, 0, 99, false), (6820000, 0, 1500, false), (7020000, 0, 1500, false), (7220000, (-2147483648), 2147483647, true), (8620000, (-1), 95, false), (9420000, (-1), 383, false), (20220000, 0, 126, false), (20820000, 0, 4, false), (21020000, 0, 1500, false), (22220000, 0, 9999, false), (22420000, 0, 10, false), (22820000, 0, 200, false), (23020000, 0, 200, false), (23220200, 0, 1, false), (23420200, 0, 1, false), (23620200, 0, 1, false), (23820000, 0, 99, false), (24020200, 0, 1, false), (24220000, 0, 99, false), (24420000, (-1), 9, false), (24620000, 0, 9, false), (24820000, 0, 24, false), (25020000, 0, 3, false), (25220000, 0, 99, false), (25420000, (-12800), 14400, false), (25820000, 0, 9, false), (27220000, 0, 999, false), (27420200, 0, 1, false), (27620200, 0, 1, false), (27820000, (-1), 3, false), (28220000, 0, 4, false), (28420000, 0, 95, false), (28620000, 0, 999, false), (28820000, 0, 5, false), (29020000, 0, 9999, false), (29220000, 0, 9999, false), (29420000, (-1), 9999, false), (29620000, (-1), 3, false), (29820000, (-99), 99, false), (30020000, 0, 99, false), (30220000, (-1), 9, false), (30420200, 0, 1, false), (30620200, 0, 1, false), (30820000, (-3500), 3500, false), (31020000, (-3500), 3500, false), (31220000, 0, 99, false), (31620200, 0, 1, false), (31820000, (-300), 300, false), (32020000, (-300), 300, false), (32220000, 0, 99, false), (32620000, 0, 96, false), (32820000, 0, 96, false), (33020000, (-3500), 3500, false), (33220000, (-1), 39, false), (33620000, (-1), 599, false), (34020200, 0, 1, false), (34620200, 0, 1, false), (34820200, 0, 1, false), (36420200, 0, 1, false), (36820000, 0, 95, false), (37020000, 0, 99, false)]
def tE : List (Nat × Nat × Nat × Bool) := [(407, 10100, 97, true), (408, 11100, 97, true), (200407, 10100, 97, false), (200408, 11100, 97, false), (600, 12100, 97, true), (601, 13101, 97, true), (602, 14101, 97, true), (603, 15100, 97, true), (604, 16101, 97, true), (606, 17100, 9, true), (607, 18100, 9, true), (200600, 12100, 97, false), (200601, 13101, 97, false), (200602, 14101, 97, false), (200603, 15100, 97, false), (200604, 16101, 97, false), (200606, 17100, 9, false), (200607, 18100, 9, false), (800, 19103, 1501, true), (811, 20100, 1501, true), (200800, 19103, 1501, false), (200811, 20100, 1501, false), (1000, 21100, 9, true), (1001, 22108, 9, true), (1003, 6, 0, true), (201000, 21100, 9, false), (201001, 22108, 9, false), (201003, 6, 0, false), (1201, 23102, 11, true), (1202, 24100, 11, true), (1203, 25100, 11, true), (1204, 26100, 21, true), (1205, 27100, 21, true), (1211, 28100, 11, true), (1212, 29100, 11, true), (1214, 30100, 25, true), (1215, 32100, 25, true), (1216, 34100, 25, true), (1217, 36100, 0, true), (1218, 37100, 33, true), (201201, 23102, 11, false), (201202, 24100, 11, false), (201203, 25100, 11, false), (201204, 26100, 21, false), (201205, 27100, 21, false), (201211, 28100, 11, false), (201212, 29100, 11, false), (201214, 31100, 25, false), (201215, 33100, 25, false), (201216, 35100, 25, false), (201217, 36100, 0, false), (201218, 37100, 33, false), (401201, 23102, 11, true), (401202, 24100, 11, true), (401203, 25100, 11, true), (401204, 26100, 21, true), (401205, 27100, 21, true), (401211, 28100, 11, true), (401212, 29100, 11, true), (401214, 31100, 25, true), (401215, 33100, 25, true), (401216, 35100, 25, true), (401217, 36100, 0, true), (401218, 37100, 33, true), (1400, 10, 0, true), (1401, 38104, 41, true), (1402, 39105, 5, true), (1406, 40100, 97, true), (1407, 40100, 97, true), (1408, 40100, 97, true), (1409, 41102, 97, true), (1410, 42102, 97, true), (1411, 43100, 97, true), (201400, 10, 0, false), (201401, 38104, 41, false), (201402, 39105, 5, false), (201406, 40100, 97, false), (201407, 40100, 97, false), (201408, 40100, 97, false), (201409, 41102, 97, false), (201410, 42102, 97, false), (201411, 43100, 97, false), (1600, 44100, 97, true), (201600, 44100, 97, false), (2000, 45100, 385, true), (2001, 46102, 385, true), (2002, 47100, 97, true), (202000, 45100, 385, false), (202001, 46102, 385, false), (202002, 47100, 97, false), (2202, 3, 0, true), (2203, 38104, 41, true), (2205, 4, 0, true), (2206, 5, 0, true), (2207, 6, 0, true), (2208, 39105, 5, true), (2211, 48106, 11, true), (2213, 7, 0, true), (2214, 49107, 17, true), (2217, 2, 0, false), (2218, 50100, 13, true), (202202, 3, 0, false), (202203, 38104, 41, false), (202205, 4, 0, false), (202206, 5, 0, false), (202207, 6, 0, false), (202208, 39105, 5, false), (202211, 48106, 11, false), (202213, 7, 0, false), (202214, 49107, 17, false), (202217, 2, 0, false), (202218, 50100, 13, false), (2401, 101100, 1501, true), (2404, 104100, 1503, true), (2405, 105100, 1503, true), (2406, 106102, 1503, true), (2409, 109102, 31, true), (2411, 111100, 10, true), (2412, 112100, 10, true), (2413, 113102, 91, true), (2414, 114100, 91, true), (2415, 115100, 91, true), (2416, 116101, 91, true), (2417, 117101, 91, true), (2418, 118101, 10, true), (2419, 119100, 10, true), (2420, 120101, 10, true), (2421, 121100, 10, true), (2422, 122100, 91, true), (2423, 123100, 91, true), (2424, 124100, 10, true), (2425, 125100, 217, true), (2426, 126100, 217, true), (2427, 127100, 217, true), (2429, 129100, 14401, true), (2430, 130100, 14401, true), (2431, 131100, 13, true), (2432, 132100, 1601, true), (2436, 136100, 97, true), (2437, 137101, 97, true), (2438, 138101, 97, true), (2439, 139100, 97, true), (2441, 141100, 41, true), (2442, 142100, 41, true), (2443, 143100, 41, true), (2444, 144100, 41, true), (2445, 145100, 41, true), (2446, 146100, 41, true), (2447, 147100, 41, true), (2448, 148100, 41, true), (2449, 149100, 41, true), (2450, 150100, 41, true), (2451, 151100, 41, true), (2452, 152101, 41, true), (2453, 153101, 41, true), (2454, 154100, 41, true), (2455, 155100, 41, true), (2456, 156100, 41, true), (2458, 158101, 769, true), (2459, 159100, 5, true), (2460, 160100, 5, true), (2461, 161100, 5, true), (2463, 163100, 601, true), (2464, 164100, 601, true), (2465, 165100, 601, true), (2466, 166100, 601, true), (2467, 167100, 98, true), (2468, 168100, 98, true), (2470, 170101, 17, true), (2471, 171100, 17, true), (2472, 172102, 17, true), (2473, 173101, 17, true), (2474, 174101, 17, true), (2475, 175100, 1537, true), (2476, 176100, 1537, true), (2481, 181100, 961, true), (2482, 182101, 97, true), (2484, 184100, 9, true), (2485, 185100, 9, true), (2486, 186100, 98, true), (202401, 101100, 1501, false), (202404, 104100, 1503, false), (202405, 105100, 1503, false), (202406, 106102, 1503, false), (202409, 109102, 31, false), (202411, 111100, 10, false), (202412, 112100, 10, false), (202413, 113102, 91, false), (202414, 114100, 91, false), (202415, 115100, 91, false), (202416, 116101, 91, false), (202417, 117101, 91, false), (202418, 118101, 10, false), (202419, 119100, 10, false), (202420, 120101, 10, false), (202421, 121100, 10, false), (202422, 122100, 91, false), (202423, 123100, 91, false), (202424, 124100, 10, false), (202425, 125100, 217, false), (202426, 126100, 217, false), (202427, 127100, 217, false), (202429, 129100, 14401, false), (202430, 130100, 14401, false), (202431, 131100, 13, false), (202432, 132100, 1601, false), (202436, 136100, 97, false), (202437, 137101, 97, false), (202438, 138101, 97, false), (202439, 139100, 97, false), (202441, 141100, 41, false), (202442, 142100, 41, false), (202443, 143100, 41, false), (202444, 144100, 41, false), (202445, 145100, 41, false), (202446, 146100, 41, false), (202447, 147100, 41, false), (202448, 148100, 41, false), (202449, 149100, 41, false), (202450, 150100, 41, false), (202451, 151100, 41, false), (202452, 152101, 41, false), (202453, 153101, 41, false), (202454, 154100, 41, false), (202455, 155100, 41, false), (202456, 156100, 41, false), (202458, 158101, 769, false), (202459, 159100, 5, false), (202460, 160100, 5, false), (202461, 161100, 5, false), (202463, 163100, 601, false), (202464, 164100, 601, false), (202465, 165100, 601, false), (202466, 166100, 601, false), (202467, 167100, 98, false), (202468, 168100, 98, false), (202470, 170101, 17, false), (202471, 171100, 17, false), (202472, 172102, 17, false), (202473, 173101, 17, false), (202474, 174101, 17, false), (202475, 175100, 1537, false), (202476, 176100, 1537, false), (202481, 181100, 961, false), (202482, 182101, 97, false), (202484, 184100, 9, false), (202485, 185100, 9, false), (202486, 186100, 98, false), (4421600, 6, 0, false), (7620800, 9, 0, false), (7821000, 1, 0, false), (9621200, 8, 0, false), (9821400, 2, 0, false)]
def look {α : Type} (d : α) : List (Nat × α) → Nat → α
  | [], _ => d
  | (k, v) :: r, n => if n = k then v else look d r n
theorem look_all {α : Type} {d : α} (P : α → Prop) (hd : P d) : ∀ (t : List (Nat × α)), (∀ q ∈ t, P q.2) → ∀ n, P (look d t n) := by
  intro t
  induction t with
  | nil => intro _ n; exact hd
  | cons q r ih =>
    intro h n
    obtain ⟨k, v⟩ := q
    unfold look
    split
    · exact h (k, v) List.mem_cons_self
    · exact ih (fun q hq => h q (List.mem_cons_of_mem _ hq)) n
theorem look_key {α : Type} {d : α} (P : Nat → α → Prop) (hd : ∀ n, P n d) : ∀ (t : List (Nat × α)), (∀ q ∈ t, P q.1 q.2) → ∀ n, P n (look d t n) := by
  intro t
  induction t with
  | nil => intro _ n; exact hd n
  | cons q r ih =>
    intro h n
    obtain ⟨k, v⟩ := q
    unfold look
    split
    · rename_i e; subst e; exact h (n, v) List.mem_cons_self
    · exact ih (fun q hq => h q (List.mem_cons_of_mem _ hq)) n
def rI (T j : Nat) : Int × Int × Bool := look (-2147483648, 2147483647, false) tI (enc T j)
def rE (T j : Nat) : Nat × Nat × Bool := look (0, 0, false) tE (enc T j)
def okI (T j : Nat) (x : Int) : Prop := (rI T j).1 ≤ x ∧ x ≤ (rI T j).2.1 ∧ ((rI T j).2.2 = true → x < -20 ∨ -13 < x)
def okR (h : Hp) (T j x : Nat) : Prop := (x = 0 ∧ (rE T j).2.2 = false) ∨ (rE T j).1 = 0 ∨ (Tg h x = (rE T j).1 ∧ ((rE T j).2.1 = 0 ∨ Ln h x + 1 = (rE T j).2.1))
theorem enc_div (T j : Nat) : enc T j / 200 = T := by
  unfold enc
  split <;> omega
theorem enc_arr {T : Nat} (hT : ¬ T % 1000 < 100) (j : Nat) : enc T j = T * 200 := by
  unfold enc
  rw [if_neg hT]
  rfl
theorem okI_zero (T j : Nat) : okI T j 0 := by
  have h := look_all (d := ((-2147483648 : Int), (2147483647 : Int), false)) (fun q => q.1 ≤ 0 ∧ 0 ≤ q.2.1) (by decide) tI (by decide +kernel) (enc T j)
  exact ⟨h.1, h.2, fun _ => by omega⟩
theorem okI_inR {T j : Nat} {x : Int} (h : okI T j x) : inR x := by
  have h1 := look_all (d := ((-2147483648 : Int), (2147483647 : Int), false)) (fun q => -2147483648 ≤ q.1 ∧ q.2.1 ≤ 2147483647) (by decide) tI (by decide +kernel) (enc T j)
  exact ⟨Int.le_trans h1.1 h.1, Int.le_trans h.2.1 h1.2⟩
def Okh (h : Hp) : Prop := Tg h 0 = 0 ∧ (∀ n j, okI (Tg h n) j (Iv h n j)) ∧ (∀ n j, inL (Jv h n j)) ∧ (∀ n, Ln h n < 2147483648) ∧ (∀ n j, okR h (Tg h n) j (Rv h n j))
def FxO (wr : List Nat) (h0 h : Hp) : Prop := ∀ n, Tg h0 n ≠ 0 → Tg h n = Tg h0 n ∧ Ln h n = Ln h0 n ∧ ∀ j, wr.elem (enc (Tg h0 n) j) = false → Iv h n j = Iv h0 n j ∧ Jv h n j = Jv h0 n j ∧ Rv h n j = Rv h0 n j
theorem FxO.rf {wr : List Nat} {h : Hp} : FxO wr h h := fun _ _ => ⟨rfl, rfl, fun _ _ => ⟨rfl, rfl, rfl⟩⟩
theorem FxO.trans {w1 w2 wr : List Nat} {h0 h1 h2 : Hp} (a : FxO w1 h0 h1) (b : FxO w2 h1 h2) (e1 : w1.all (fun x => wr.elem x) = true) (e2 : w2.all (fun x => wr.elem x) = true) : FxO wr h0 h2 := by
  intro n hn
  obtain ⟨a1, a2, a3⟩ := a n hn
  obtain ⟨b1, b2, b3⟩ := b n (by rw [a1]; exact hn)
  refine ⟨b1.trans a1, b2.trans a2, fun j hj => ?_⟩
  have s1 : w1.elem (enc (Tg h0 n) j) = false := by
    cases hq : w1.elem (enc (Tg h0 n) j) with
    | false => rfl
    | true =>
      have := List.all_eq_true.mp e1 _ (List.elem_iff.mp hq)
      rw [hj] at this; exact absurd this (by decide)
  have s2 : w2.elem (enc (Tg h0 n) j) = false := by
    cases hq : w2.elem (enc (Tg h0 n) j) with
    | false => rfl
    | true =>
      have := List.all_eq_true.mp e2 _ (List.elem_iff.mp hq)
      rw [hj] at this; exact absurd this (by decide)
  obtain ⟨c1, c2, c3⟩ := a3 j s1
  obtain ⟨d1, d2, d3⟩ := b3 j (by rw [a1]; exact s2)
  exact ⟨d1.trans c1, d2.trans c2, d3.trans c3⟩
theorem FxO.wI {wr : List Nat} {h0 h : Hp} {n j : Nat} {v : Int} (a : FxO wr h0 h) (hw : wr.elem (enc (Tg h n) j) = true) : FxO wr h0 (sI h n j v) := by
  intro m hm
  obtain ⟨a1, a2, a3⟩ := a m hm
  refine ⟨a1, a2, fun i hi => ?_⟩
  obtain ⟨c1, c2, c3⟩ := a3 i hi
  refine ⟨?_, c2, c3⟩
  show up2 h.2.2.1 n j v m i = _
  unfold up2
  rw [if_neg]
  · exact c1
  · rintro ⟨rfl, rfl⟩
    rw [a1, hi] at hw; exact absurd hw (by decide)
theorem FxO.wJ {wr : List Nat} {h0 h : Hp} {n j : Nat} {v : Int} (a : FxO wr h0 h) (hw : wr.elem (enc (Tg h n) j) = true) : FxO wr h0 (sJ h n j v) := by
  intro m hm
  obtain ⟨a1, a2, a3⟩ := a m hm
  refine ⟨a1, a2, fun i hi => ?_⟩
  obtain ⟨c1, c2, c3⟩ := a3 i hi
  refine ⟨c1, ?_, c3⟩
  show up2 h.2.2.2.1 n j v m i = _
  unfold up2
  rw [if_neg]
  · exact c2
  · rintro ⟨rfl, rfl⟩
    rw [a1, hi] at hw; exact absurd hw (by decide)
theorem FxO.wR {wr : List Nat} {h0 h : Hp} {n j : Nat} {v : Nat} (a : FxO wr h0 h) (hw : wr.elem (enc (Tg h n) j) = true) : FxO wr h0 (sR h n j v) := by
  intro m hm
  obtain ⟨a1, a2, a3⟩ := a m hm
  refine ⟨a1, a2, fun i hi => ?_⟩
  obtain ⟨c1, c2, c3⟩ := a3 i hi
  refine ⟨c1, c2, ?_⟩
  show up2 h.2.2.2.2 n j v m i = _
  unfold up2
  rw [if_neg]
  · exact c3
  · rintro ⟨rfl, rfl⟩
    rw [a1, hi] at hw; exact absurd hw (by decide)
theorem FxO.wN {wr : List Nat} {h0 h : Hp} {n t k : Nat} (a : FxO wr h0 h) (hn : Tg h n = 0) : FxO wr h0 (nw h n t k) := by
  intro m hm
  obtain ⟨a1, a2, a3⟩ := a m hm
  have hne : m ≠ n := fun e => hm (by rw [← a1, e]; exact hn)
  refine ⟨?_, ?_, fun i hi => ?_⟩
  · show va_up h.1 n t m = _; rw [va_up_at, if_neg hne]; exact a1
  · show va_up h.2.1 n k m = _; rw [va_up_at, if_neg hne]; exact a2
  · obtain ⟨c1, c2, c3⟩ := a3 i hi
    refine ⟨?_, ?_, ?_⟩
    · show va_up h.2.2.1 n (fun _ => 0) m i = _; rw [va_up_at, if_neg hne]; exact c1
    · show va_up h.2.2.2.1 n (fun _ => 0) m i = _; rw [va_up_at, if_neg hne]; exact c2
    · show va_up h.2.2.2.2 n (fun _ => 0) m i = _; rw [va_up_at, if_neg hne]; exact c3
theorem FxO.wT {wr : List Nat} {h0 h : Hp} {n t : Nat} (a : FxO wr h0 h) (hn : Tg h0 n = 0) : FxO wr h0 (rt h n t) := by
  intro m hm
  obtain ⟨a1, a2, a3⟩ := a m hm
  have hne : m ≠ n := fun e => hm (by rw [e]; exact hn)
  refine ⟨?_, a2, a3⟩
  show va_up h.1 n t m = _; rw [va_up_at, if_neg hne]; exact a1
def Fx (wr : List Nat) (h0 h : Hp) : Prop := FxO wr h0 h ∧ ∀ n, Tg h0 n = 0 → Tg h n = 0 ∨ wr.elem (1000000000 + Tg h n) = true
theorem Fx.rf {wr : List Nat} {h : Hp} : Fx wr h h := ⟨FxO.rf, fun _ hn => Or.inl hn⟩
theorem el_sub {w1 wr : List Nat} (e1 : w1.all (fun x => wr.elem x) = true) {x : Nat} (h : w1.elem x = true) : wr.elem x = true := List.all_eq_true.mp e1 _ (List.elem_iff.mp h)
theorem Fx.trans {w1 w2 wr : List Nat} {h0 h1 h2 : Hp} (a : Fx w1 h0 h1) (b : Fx w2 h1 h2) (e1 : w1.all (fun x => wr.elem x) = true) (e2 : w2.all (fun x => wr.elem x) = true) : Fx wr h0 h2 := by
  refine ⟨a.1.trans b.1 e1 e2, fun n hn => ?_⟩
  by_cases z : Tg h1 n = 0
  · rcases b.2 n z with q | q
    · exact Or.inl q
    · exact Or.inr (el_sub e2 q)
  · rcases a.2 n hn with q | q
    · exact absurd q z
    · rw [(b.1 n z).1]
      exact Or.inr (el_sub e1 q)
theorem Fx.wI {wr : List Nat} {h0 h : Hp} {n j : Nat} {v : Int} (a : Fx wr h0 h) (hw : wr.elem (enc (Tg h n) j) = true) : Fx wr h0 (sI h n j v) := ⟨a.1.wI hw, a.2⟩
theorem Fx.wJ {wr : List Nat} {h0 h : Hp} {n j : Nat} {v : Int} (a : Fx wr h0 h) (hw : wr.elem (enc (Tg h n) j) = true) : Fx wr h0 (sJ h n j v) := ⟨a.1.wJ hw, a.2⟩
theorem Fx.wR {wr : List Nat} {h0 h : Hp} {n j : Nat} {v : Nat} (a : Fx wr h0 h) (hw : wr.elem (enc (Tg h n) j) = true) : Fx wr h0 (sR h n j v) := ⟨a.1.wR hw, a.2⟩
theorem Fx.wN {wr : List Nat} {h0 h : Hp} {n t k : Nat} (a : Fx wr h0 h) (hn : Tg h n = 0) (hw : wr.elem (1000000000 + t) = true) : Fx wr h0 (nw h n t k) := by
  refine ⟨a.1.wN hn, fun m hm => ?_⟩
  show va_up h.1 n t m = 0 ∨ wr.elem (1000000000 + va_up h.1 n t m) = true
  rw [va_up_at]
  split
  · exact Or.inr hw
  · exact a.2 m hm
theorem Fx.wT {wr : List Nat} {h0 h : Hp} {n t : Nat} (a : Fx wr h0 h) (hn : Tg h0 n = 0) (hw : wr.elem (1000000000 + t) = true) : Fx wr h0 (rt h n t) := by
  refine ⟨a.1.wT hn, fun m hm => ?_⟩
  show va_up h.1 n t m = 0 ∨ wr.elem (1000000000 + va_up h.1 n t m) = true
  rw [va_up_at]
  split
  · exact Or.inr hw
  · exact a.2 m hm
theorem okI_up {h : Hp} {n j : Nat} {v : Int} (a : ∀ n j, okI (Tg h n) j (Iv h n j)) (hv : okI (Tg h n) j v) (m i : Nat) : okI (Tg h m) i (up2 h.2.2.1 n j v m i) := by
  unfold up2
  split
  · rename_i e; obtain ⟨rfl, rfl⟩ := e; exact hv
  · exact a m i
theorem Okh.wI {h : Hp} {n j : Nat} {v : Int} (a : Okh h) (hv : okI (Tg h n) j v) : Okh (sI h n j v) :=
  ⟨a.1, fun m i => okI_up a.2.1 hv m i, a.2.2.1, a.2.2.2.1, a.2.2.2.2⟩
theorem Okh.wJ {h : Hp} {n j : Nat} {v : Int} (a : Okh h) (hv : inL v) : Okh (sJ h n j v) := by
  refine ⟨a.1, a.2.1, fun m i => ?_, a.2.2.2.1, a.2.2.2.2⟩
  show inL (up2 h.2.2.2.1 n j v m i)
  unfold up2
  split
  · exact hv
  · exact a.2.2.1 m i
theorem Okh.wR {h : Hp} {n j v : Nat} (a : Okh h) (hv : okR h (Tg h n) j v) : Okh (sR h n j v) := by
  refine ⟨a.1, a.2.1, a.2.2.1, a.2.2.2.1, fun m i => ?_⟩
  show okR h (Tg h m) i (up2 h.2.2.2.2 n j v m i)
  unfold up2
  split
  · rename_i e; obtain ⟨rfl, rfl⟩ := e; exact hv
  · exact a.2.2.2.2 m i
theorem Okh.wN {h : Hp} {n t k : Nat} (a : Okh h) (h0 : n ≠ 0) (hn : Tg h n = 0) (hk : k < 2147483648) (hz : ∀ j, (rE t j).2.2 = false) : Okh (nw h n t k) := by
  obtain ⟨a0, a1, a2, a3, a4⟩ := a
  refine ⟨?_, fun m i => ?_, fun m i => ?_, fun m => ?_, fun m i => ?_⟩
  · show va_up h.1 n t 0 = 0; rw [va_up_at, if_neg (Ne.symm h0)]; exact a0
  · show okI (va_up h.1 n t m) i (va_up h.2.2.1 n (fun _ => 0) m i)
    rw [va_up_at, va_up_at]
    split
    · exact okI_zero _ _
    · exact a1 m i
  · show inL (va_up h.2.2.2.1 n (fun _ => 0) m i)
    rw [va_up_at]
    split
    · exact (by decide : inL 0)
    · exact a2 m i
  · show va_up h.2.1 n k m < _
    rw [va_up_at]
    split
    · exact hk
    · exact a3 m
  · show okR (nw h n t k) (va_up h.1 n t m) i (va_up h.2.2.2.2 n (fun _ => 0) m i)
    rw [va_up_at, va_up_at]
    split
    · exact Or.inl ⟨rfl, hz i⟩
    · rcases a4 m i with q | q | q
      · exact Or.inl q
      · exact Or.inr (Or.inl q)
      · by_cases hE : (rE (Tg h m) i).1 = 0
        · exact Or.inr (Or.inl hE)
        · have hx : ¬ Rv h m i = n := fun e => hE (by rw [← q.1, e]; exact hn)
          refine Or.inr (Or.inr ⟨?_, ?_⟩)
          · show va_up h.1 n t (Rv h m i) = _; rw [va_up_at, if_neg hx]; exact q.1
          · show _ ∨ va_up h.2.1 n k (Rv h m i) + 1 = _; rw [va_up_at, if_neg hx]; exact q.2
theorem Okh.wT {h : Hp} {n t : Nat} (a : Okh h) (h0 : n ≠ 0) (hu : ∀ T j, (rE T j).1 ≠ Tg h n) (hi : ∀ j, okI t j (Iv h n j)) (hR : ∀ j, okR h t j (Rv h n j)) (hself : ∀ j, Rv h n j ≠ n ∨ (rE t j).1 = 0) : Okh (rt h n t) := by
  obtain ⟨a0, a1, a2, a3, a4⟩ := a
  refine ⟨?_, fun m i => ?_, a2, a3, fun m i => ?_⟩
  · show va_up h.1 n t 0 = 0; rw [va_up_at, if_neg (Ne.symm h0)]; exact a0
  · show okI (va_up h.1 n t m) i (Iv h m i)
    rw [va_up_at]
    split
    · rename_i e; subst e; exact hi i
    · exact a1 m i
  · show okR (rt h n t) (va_up h.1 n t m) i (Rv h m i)
    have key : ∀ T, okR h T i (Rv h m i) → okR (rt h n t) T i (Rv h m i) := by
      intro T q
      rcases q with q | q | q
      · exact Or.inl q
      · exact Or.inr (Or.inl q)
      · have hx : ¬ Rv h m i = n := fun e => hu T i (by rw [← q.1, e])
        refine Or.inr (Or.inr ⟨?_, q.2⟩)
        show va_up h.1 n t (Rv h m i) = _; rw [va_up_at, if_neg hx]; exact q.1
    rw [va_up_at]
    split
    · rename_i e; subst e; exact key t (hR i)
    · exact key _ (a4 m i)
/-! what is read -/
theorem ok_I {h : Hp} {n T j : Nat} {lo hi : Int} {b : Bool} (a : Okh h) (ht : Tg h n = T) (hr : rI T j = (lo, hi, b)) {x : Int} (hx : Iv h n j = x) : lo ≤ x ∧ x ≤ hi := by
  have := a.2.1 n j
  rw [ht, hx] at this
  unfold okI at this
  rw [hr] at this
  exact ⟨this.1, this.2.1⟩
theorem ok_H {h : Hp} {n T j : Nat} {lo hi : Int} (a : Okh h) (ht : Tg h n = T) (hr : rI T j = (lo, hi, true)) {x : Int} (hx : Iv h n j = x) : lo ≤ x ∧ x ≤ hi ∧ (x < -20 ∨ -13 < x) := by
  have := a.2.1 n j
  rw [ht, hx] at this
  unfold okI at this
  rw [hr] at this
  exact ⟨this.1, this.2.1, this.2.2 rfl⟩
theorem ok_J {h : Hp} {n j : Nat} (a : Okh h) {x : Int} (hx : Jv h n j = x) : inL x := hx ▸ a.2.2.1 n j
theorem ok_R {h : Hp} {n T j E : Nat} {k : Nat} (a : Okh h) (ht : Tg h n = T) (hr : rE T j = (E + 1, k, true)) {x : Nat} (hx : Rv h n j = x) : Tg h x = E + 1 := by
  have := a.2.2.2.2 n j
  rw [ht, hx] at this
  unfold okR at this
  rw [hr] at this
  rcases this with q | q | q
  · exact absurd q.2 (by simp)
  · exact absurd q (Nat.succ_ne_zero E)
  · exact q.1
theorem ok_L {h : Hp} {n T j E : Nat} {k : Nat} (a : Okh h) (ht : Tg h n = T) (hr : rE T j = (E + 1, k + 1, true)) {x : Nat} (hx : Rv h n j = x) : Ln h x = k := by
  have := a.2.2.2.2 n j
  rw [ht, hx] at this
  unfold okR at this
  rw [hr] at this
  rcases this with q | q | q
  · exact absurd q.2 (by simp)
  · exact absurd q (Nat.succ_ne_zero E)
  · rcases q.2 with z | z
    · exact absurd z (Nat.succ_ne_zero k)
    · exact Nat.succ.inj z
theorem ok_N {h : Hp} {n T j E : Nat} {k : Nat} (a : Okh h) (ht : Tg h n = T) (hr : rE T j = (E + 1, k, false)) {x : Nat} (hx : Rv h n j = x) (h0 : x ≠ 0) : Tg h x = E + 1 := by
  have := a.2.2.2.2 n j
  rw [ht, hx] at this
  unfold okR at this
  rw [hr] at this
  rcases this with q | q | q
  · exact absurd q.1 h0
  · exact absurd q (Nat.succ_ne_zero E)
  · exact q.1
theorem ok_NL {h : Hp} {n T j E : Nat} {k : Nat} (a : Okh h) (ht : Tg h n = T) (hr : rE T j = (E + 1, k + 1, false)) {x : Nat} (hx : Rv h n j = x) (h0 : x ≠ 0) : Ln h x = k := by
  have := a.2.2.2.2 n j
  rw [ht, hx] at this
  unfold okR at this
  rw [hr] at this
  rcases this with q | q | q
  · exact absurd q.1 h0
  · exact absurd q (Nat.succ_ne_zero E)
  · rcases q.2 with z | z
    · exact absurd z (Nat.succ_ne_zero k)
    · exact Nat.succ.inj z
theorem ne_tag {h : Hp} {n m T U : Nat} (hn : Tg h n = T) (hm : Tg h m = U) (hne : T ≠ U) : n ≠ m := fun e => hne (by rw [← hn, ← hm, e])
theorem ne_0 {h : Hp} {n T : Nat} (a : Okh h) (hn : Tg h n = T + 1) : n ≠ 0 := fun e => by rw [e, a.1] at hn; exact absurd hn (by omega)
/-! one heap behind another: h1 is h with a write -/
theorem pI_n {h h1 : Hp} {n j : Nat} {v : Int} (hh : sI h n j v = h1) {m i : Nat} (hne : m ≠ n) : Iv h1 m i = Iv h m i := by
  subst hh; show up2 _ _ _ _ _ _ = _; unfold up2; rw [if_neg (fun e => hne e.1)]; rfl
theorem pI_j {h h1 : Hp} {n j : Nat} {v : Int} (hh : sI h n j v = h1) {m i : Nat} (hne : i ≠ j) : Iv h1 m i = Iv h m i := by
  subst hh; show up2 _ _ _ _ _ _ = _; unfold up2; rw [if_neg (fun e => hne e.2)]; rfl
theorem pI_e {h h1 : Hp} {n j : Nat} {v : Int} (hh : sI h n j v = h1) : Iv h1 n j = v := by
  subst hh; show up2 _ _ _ _ _ _ = _; unfold up2; rw [if_pos ⟨rfl, rfl⟩]
theorem pIJ {h h1 : Hp} {n j : Nat} {v : Int} (hh : sI h n j v = h1) {m i : Nat} : Jv h1 m i = Jv h m i := by subst hh; rfl
theorem pIR {h h1 : Hp} {n j : Nat} {v : Int} (hh : sI h n j v = h1) {m i : Nat} : Rv h1 m i = Rv h m i := by subst hh; rfl
theorem pIT {h h1 : Hp} {n j : Nat} {v : Int} (hh : sI h n j v = h1) {m : Nat} : Tg h1 m = Tg h m := by subst hh; rfl
theorem pIL {h h1 : Hp} {n j : Nat} {v : Int} (hh : sI h n j v = h1) {m : Nat} : Ln h1 m = Ln h m := by subst hh; rfl
theorem pJ_n {h h1 : Hp} {n j : Nat} {v : Int} (hh : sJ h n j v = h1) {m i : Nat} (hne : m ≠ n) : Jv h1 m i = Jv h m i := by
  subst hh; show up2 _ _ _ _ _ _ = _; unfold up2; rw [if_neg (fun e => hne e.1)]; rfl
theorem pJ_j {h h1 : Hp} {n j : Nat} {v : Int} (hh : sJ h n j v = h1) {m i : Nat} (hne : i ≠ j) : Jv h1 m i = Jv h m i := by
  subst hh; show up2 _ _ _ _ _ _ = _; unfold up2; rw [if_neg (fun e => hne e.2)]; rfl
theorem pJ_e {h h1 : Hp} {n j : Nat} {v : Int} (hh : sJ h n j v = h1) : Jv h1 n j = v := by
  subst hh; show up2 _ _ _ _ _ _ = _; unfold up2; rw [if_pos ⟨rfl, rfl⟩]
theorem pJI {h h1 : Hp} {n j : Nat} {v : Int} (hh : sJ h n j v = h1) {m i : Nat} : Iv h1 m i = Iv h m i := by subst hh; rfl
theorem pJR {h h1 : Hp} {n j : Nat} {v : Int} (hh : sJ h n j v = h1) {m i : Nat} : Rv h1 m i = Rv h m i := by subst hh; rfl
theorem pJT {h h1 : Hp} {n j : Nat} {v : Int} (hh : sJ h n j v = h1) {m : Nat} : Tg h1 m = Tg h m := by subst hh; rfl
theorem pJL {h h1 : Hp} {n j : Nat} {v : Int} (hh : sJ h n j v = h1) {m : Nat} : Ln h1 m = Ln h m := by subst hh; rfl
theorem pR_n {h h1 : Hp} {n j : Nat} {v : Nat} (hh : sR h n j v = h1) {m i : Nat} (hne : m ≠ n) : Rv h1 m i = Rv h m i := by
  subst hh; show up2 _ _ _ _ _ _ = _; unfold up2; rw [if_neg (fun e => hne e.1)]; rfl
theorem pR_j {h h1 : Hp} {n j : Nat} {v : Nat} (hh : sR h n j v = h1) {m i : Nat} (hne : i ≠ j) : Rv h1 m i = Rv h m i := by
  subst hh; show up2 _ _ _ _ _ _ = _; unfold up2; rw [if_neg (fun e => hne e.2)]; rfl
theorem pR_e {h h1 : Hp} {n j : Nat} {v : Nat} (hh : sR h n j v = h1) : Rv h1 n j = v := by
  subst hh; show up2 _ _ _ _ _ _ = _; unfold up2; rw [if_pos ⟨rfl, rfl⟩]
theorem pRI {h h1 : Hp} {n j : Nat} {v : Nat} (hh : sR h n j v = h1) {m i : Nat} : Iv h1 m i = Iv h m i := by subst hh; rfl
theorem pRJ {h h1 : Hp} {n j : Nat} {v : Nat} (hh : sR h n j v = h1) {m i : Nat} : Jv h1 m i = Jv h m i := by subst hh; rfl
theorem pRT {h h1 : Hp} {n j : Nat} {v : Nat} (hh : sR h n j v = h1) {m : Nat} : Tg h1 m = Tg h m := by subst hh; rfl
theorem pRL {h h1 : Hp} {n j : Nat} {v : Nat} (hh : sR h n j v = h1) {m : Nat} : Ln h1 m = Ln h m := by subst hh; rfl
theorem pN_n {h h1 : Hp} {n t k : Nat} (hh : nw h n t k = h1) {m T : Nat} (hn : Tg h n = 0) (hm : Tg h m = T + 1) : m ≠ n := fun e => by rw [e, hn] at hm; omega
theorem pNI {h h1 : Hp} {n t k : Nat} (hh : nw h n t k = h1) {m i : Nat} (hne : m ≠ n) : Iv h1 m i = Iv h m i := by subst hh; simp only [Iv, Jv, Rv, nw, va_up_at, if_neg hne]
theorem pNJ {h h1 : Hp} {n t k : Nat} (hh : nw h n t k = h1) {m i : Nat} (hne : m ≠ n) : Jv h1 m i = Jv h m i := by subst hh; simp only [Iv, Jv, Rv, nw, va_up_at, if_neg hne]
theorem pNR {h h1 : Hp} {n t k : Nat} (hh : nw h n t k = h1) {m i : Nat} (hne : m ≠ n) : Rv h1 m i = Rv h m i := by subst hh; simp only [Iv, Jv, Rv, nw, va_up_at, if_neg hne]
theorem pNT {h h1 : Hp} {n t k : Nat} (hh : nw h n t k = h1) {m : Nat} (hne : m ≠ n) : Tg h1 m = Tg h m := by subst hh; show va_up _ _ _ _ = _; rw [va_up_at, if_neg hne]; rfl
theorem pNL {h h1 : Hp} {n t k : Nat} (hh : nw h n t k = h1) {m : Nat} (hne : m ≠ n) : Ln h1 m = Ln h m := by subst hh; show va_up _ _ _ _ = _; rw [va_up_at, if_neg hne]; rfl
theorem pN_T {h h1 : Hp} {n t k : Nat} (hh : nw h n t k = h1) : Tg h1 n = t := by subst hh; show va_up _ _ _ _ = _; rw [va_up_at, if_pos rfl]
theorem pN_L {h h1 : Hp} {n t k : Nat} (hh : nw h n t k = h1) : Ln h1 n = k := by subst hh; show va_up _ _ _ _ = _; rw [va_up_at, if_pos rfl]
theorem pN_I {h h1 : Hp} {n t k : Nat} (hh : nw h n t k = h1) {i : Nat} : Iv h1 n i = 0 := by subst hh; simp [Iv, Jv, Rv, nw, va_up_at]
theorem pN_J {h h1 : Hp} {n t k : Nat} (hh : nw h n t k = h1) {i : Nat} : Jv h1 n i = 0 := by subst hh; simp [Iv, Jv, Rv, nw, va_up_at]
theorem pN_R {h h1 : Hp} {n t k : Nat} (hh : nw h n t k = h1) {i : Nat} : Rv h1 n i = 0 := by subst hh; simp [Iv, Jv, Rv, nw, va_up_at]
theorem fxT {wr : List Nat} {h h1 : Hp} (f : Fx wr h h1) {m T : Nat} (hm : Tg h m = T + 1) : Tg h1 m = T + 1 := ((f.1 m (by omega)).1).trans hm
theorem fxL {wr : List Nat} {h h1 : Hp} (f : Fx wr h h1) {m T : Nat} (hm : Tg h m = T + 1) : Ln h1 m = Ln h m := (f.1 m (by omega)).2.1
theorem fxI {wr : List Nat} {h h1 : Hp} (f : Fx wr h h1) {m T i : Nat} (hm : Tg h m = T + 1) (hw : wr.elem (enc (T + 1) i) = false) : Iv h1 m i = Iv h m i := ((f.1 m (by omega)).2.2 i (by rw [hm]; exact hw)).1
theorem fxJ {wr : List Nat} {h h1 : Hp} (f : Fx wr h h1) {m T i : Nat} (hm : Tg h m = T + 1) (hw : wr.elem (enc (T + 1) i) = false) : Jv h1 m i = Jv h m i := ((f.1 m (by omega)).2.2 i (by rw [hm]; exact hw)).2.1
theorem fxR {wr : List Nat} {h h1 : Hp} (f : Fx wr h h1) {m T i : Nat} (hm : Tg h m = T + 1) (hw : wr.elem (enc (T + 1) i) = false) : Rv h1 m i = Rv h m i := ((f.1 m (by omega)).2.2 i (by rw [hm]; exact hw)).2.2
/-! steps by name: h1 is h with a write -/
theorem rI_arr {T : Nat} (hT : ¬ T % 1000 < 100) (j : Nat) : rI T j = rI T 0 := by unfold rI; rw [enc_arr hT, enc_arr hT]
theorem rE_arr {T : Nat} (hT : ¬ T % 1000 < 100) (j : Nat) : rE T j = rE T 0 := by unfold rE; rw [enc_arr hT, enc_arr hT]
theorem nn_of {T : Nat} (h : tE.all (fun q => !(q.1 / 200 == T) || !q.2.2.2) = true) (j : Nat) : (rE T j).2.2 = false := by
  have key := look_key (d := ((0 : Nat), (0 : Nat), false)) (fun n q => n / 200 = T → q.2.2 = false) (fun _ _ => rfl) tE (fun q hq hT => by
    have := List.all_eq_true.mp h q hq
    simp only [Bool.or_eq_true, Bool.not_eq_true', beq_eq_false_iff_ne, ne_eq] at this
    rcases this with z | z
    · exact absurd hT z
    · exact z) (enc T j)
  exact key (enc_div T j)
theorem nu_of {U : Nat} (hU : U ≠ 0) (h : tE.all (fun q => !(q.2.1 == U)) = true) (T j : Nat) : (rE T j).1 ≠ U := by
  have key := look_all (d := ((0 : Nat), (0 : Nat), false)) (fun q => q.1 ≠ U) (fun z => hU z.symm) tE (fun q hq => by
    have := List.all_eq_true.mp h q hq
    simpa using this) (enc T j)
  exact key
section STEP
variable {h h0 h1 : Hp} {n m j i T U : Nat} {lo hi : Int} {b : Bool} {wr : List Nat}
theorem Okh.pI {v : Int} (a : Okh h) (t : Tg h n = T) (hh : sI h n j v = h1) (hr : rI T j = (lo, hi, b)) (hv : lo ≤ v ∧ v ≤ hi) (hb : b = true → v < -20 ∨ -13 < v) : Okh h1 := by
  subst hh; exact a.wI (by rw [t]; unfold okI; rw [hr]; exact ⟨hv.1, hv.2, hb⟩)
theorem Okh.pIa {v : Int} (a : Okh h) (t : Tg h n = T) (hT : ¬ T % 1000 < 100) (hh : sI h n j v = h1) (hr : rI T 0 = (lo, hi, b)) (hv : lo ≤ v ∧ v ≤ hi) (hb : b = true → v < -20 ∨ -13 < v) : Okh h1 := a.pI t hh ((rI_arr hT j).trans hr) hv hb
theorem Okh.pJ {v : Int} (a : Okh h) (hh : sJ h n j v = h1) (hv : inL v) : Okh h1 := by subst hh; exact a.wJ hv
theorem Okh.pR {v : Nat} (a : Okh h) (t : Tg h n = T) (hh : sR h n j v = h1) (hv : okR h T j v) : Okh h1 := by subst hh; exact a.wR (by rw [t]; exact hv)
theorem Okh.pN {t k : Nat} (a : Okh h) (h0 : n ≠ 0) (hn : Tg h n = 0) (hh : nw h n t k = h1) (hk : k < 2147483648) (hz : ∀ j, (rE t j).2.2 = false) : Okh h1 := by subst hh; exact a.wN h0 hn hk hz
theorem okR_0 {E k : Nat} (hr : rE T j = (E, k, false)) : okR h T j 0 := Or.inl ⟨rfl, by rw [hr]⟩
theorem okR_f {k : Nat} {x : Nat} (hr : rE T j = (0, k, b)) : okR h T j x := Or.inr (Or.inl (by rw [hr]))
theorem okR_o {E x : Nat} (hr : rE T j = (E, 0, b)) (t : Tg h x = E) : okR h T j x := Or.inr (Or.inr ⟨by rw [hr]; exact t, Or.inl (by rw [hr])⟩)
theorem okR_l {E k x : Nat} (hr : rE T j = (E, k + 1, b)) (t : Tg h x = E) (l : Ln h x = k) : okR h T j x := Or.inr (Or.inr ⟨by rw [hr]; exact t, Or.inr (by rw [hr, l])⟩)
theorem ok_Ia (a : Okh h) (ht : Tg h n = T) (hT : ¬ T % 1000 < 100) (hr : rI T 0 = (lo, hi, b)) {x : Int} (hx : Iv h n j = x) : lo ≤ x ∧ x ≤ hi := ok_I a ht ((rI_arr hT j).trans hr) hx
theorem ok_Ha (a : Okh h) (ht : Tg h n = T) (hT : ¬ T % 1000 < 100) (hr : rI T 0 = (lo, hi, true)) {x : Int} (hx : Iv h n j = x) : x < -20 ∨ -13 < x := (ok_H a ht ((rI_arr hT j).trans hr) hx).2.2
theorem ok_Na {E k : Nat} (a : Okh h) (ht : Tg h n = T) (hT : ¬ T % 1000 < 100) (hr : rE T 0 = (E + 1, k, false)) {x : Nat} (hx : Rv h n j = x) (h0 : x ≠ 0) : Tg h x = E + 1 := ok_N a ht ((rE_arr hT j).trans hr) hx h0
theorem Fx.pI {v : Int} (a : Fx wr h0 h) (t : Tg h n = T) (hh : sI h n j v = h1) (hw : wr.elem (enc T j) = true) : Fx wr h0 h1 := by subst hh; exact a.wI (by rw [t]; exact hw)
theorem Fx.pJ {v : Int} (a : Fx wr h0 h) (t : Tg h n = T) (hh : sJ h n j v = h1) (hw : wr.elem (enc T j) = true) : Fx wr h0 h1 := by subst hh; exact a.wJ (by rw [t]; exact hw)
theorem Fx.pR {v : Nat} (a : Fx wr h0 h) (t : Tg h n = T) (hh : sR h n j v = h1) (hw : wr.elem (enc T j) = true) : Fx wr h0 h1 := by subst hh; exact a.wR (by rw [t]; exact hw)
theorem Fx.pIa {v : Int} (a : Fx wr h0 h) (t : Tg h n = T) (hT : ¬ T % 1000 < 100) (hh : sI h n j v = h1) (hw : wr.elem (T * 200) = true) : Fx wr h0 h1 := a.pI t hh (by rw [enc_arr hT]; exact hw)
theorem Fx.pJa {v : Int} (a : Fx wr h0 h) (t : Tg h n = T) (hT : ¬ T % 1000 < 100) (hh : sJ h n j v = h1) (hw : wr.elem (T * 200) = true) : Fx wr h0 h1 := a.pJ t hh (by rw [enc_arr hT]; exact hw)
theorem Fx.pRa {v : Nat} (a : Fx wr h0 h) (t : Tg h n = T) (hT : ¬ T % 1000 < 100) (hh : sR h n j v = h1) (hw : wr.elem (T * 200) = true) : Fx wr h0 h1 := a.pR t hh (by rw [enc_arr hT]; exact hw)
theorem Fx.pN {t k : Nat} (a : Fx wr h0 h) (hn : Tg h n = 0) (hh : nw h n t k = h1) (hw : wr.elem (1000000000 + t) = true) : Fx wr h0 h1 := by subst hh; exact a.wN hn hw
theorem Fx.pT {t : Nat} (a : Fx wr h0 h) (hn : Tg h0 n = 0) (hh : rt h n t = h1) (hw : wr.elem (1000000000 + t) = true) : Fx wr h0 h1 := by subst hh; exact a.wT hn hw
theorem all_self (w : List Nat) : w.all (fun x => w.elem x) = true := List.all_eq_true.mpr (fun x hx => List.elem_iff.mpr hx)
theorem Fx.call {w2 : List Nat} (a : Fx wr h0 h) (c : Fx w2 h h1) (e : w2.all (fun x => wr.elem x) = true) : Fx wr h0 h1 := a.trans c (all_self wr) e
theorem Fx.sub {w2 : List Nat} (c : Fx w2 h h1) (e : w2.all (fun x => wr.elem x) = true) : Fx wr h h1 := c.trans Fx.rf e (all_self wr)
theorem fxIa (f : Fx wr h h1) (hm : Tg h m = T + 1) (hT : ¬ (T + 1) % 1000 < 100) (hw : wr.elem ((T + 1) * 200) = false) : Iv h1 m i = Iv h m i := fxI f hm (by rw [enc_arr hT]; exact hw)
theorem fxJa (f : Fx wr h h1) (hm : Tg h m = T + 1) (hT : ¬ (T + 1) % 1000 < 100) (hw : wr.elem ((T + 1) * 200) = false) : Jv h1 m i = Jv h m i := fxJ f hm (by rw [enc_arr hT]; exact hw)
theorem fxRa (f : Fx wr h h1) (hm : Tg h m = T + 1) (hT : ¬ (T + 1) % 1000 < 100) (hw : wr.elem ((T + 1) * 200) = false) : Rv h1 m i = Rv h m i := fxR f hm (by rw [enc_arr hT]; exact hw)
/-! retagged -/
theorem pTT {t : Nat} (hh : rt h n t = h1) (hne : m ≠ n) : Tg h1 m = Tg h m := by subst hh; show va_up _ _ _ _ = _; rw [va_up_at, if_neg hne]; rfl
theorem pT_T {t : Nat} (hh : rt h n t = h1) : Tg h1 n = t := by subst hh; show va_up _ _ _ _ = _; rw [va_up_at, if_pos rfl]
theorem pTL {t : Nat} (hh : rt h n t = h1) : Ln h1 m = Ln h m := by subst hh; rfl
theorem pTI {t : Nat} (hh : rt h n t = h1) : Iv h1 m i = Iv h m i := by subst hh; rfl
theorem pTJ {t : Nat} (hh : rt h n t = h1) : Jv h1 m i = Jv h m i := by subst hh; rfl
theorem pTR {t : Nat} (hh : rt h n t = h1) : Rv h1 m i = Rv h m i := by subst hh; rfl
end STEP
theorem nz_of {h : Hp} {n T : Nat} (a : Okh h) (t : Tg h n = T + 1) : ¬ n = 0 := fun e => by rw [e, a.1] at t; omega
theorem inL_J {h : Hp} {n j : Nat} (a : Okh h) {x : Int} (hx : Jv h n j = x) : inL x := hx ▸ a.2.2.1 n j
/-! intervals -/
section IV
variable {x y c lo hi lo2 hi2 l u k : Int}
theorem iw (f : lo ≤ x ∧ x ≤ hi) (h1 : l ≤ lo) (h2 : hi ≤ u) : l ≤ x ∧ x ≤ u := by omega
theorem ix {q : Nat} (f : lo ≤ x ∧ x ≤ hi) (h1 : 0 ≤ lo) (h2 : hi < (q : Int)) : 0 ≤ x ∧ x < (q : Int) := by omega
theorem ia_add (f : lo ≤ x ∧ x ≤ hi) (g : lo2 ≤ y ∧ y ≤ hi2) (h1 : l ≤ lo + lo2) (h2 : hi + hi2 ≤ u) : l ≤ x + y ∧ x + y ≤ u := by omega
theorem ia_sub (f : lo ≤ x ∧ x ≤ hi) (g : lo2 ≤ y ∧ y ≤ hi2) (h1 : l ≤ lo - hi2) (h2 : hi - lo2 ≤ u) : l ≤ x - y ∧ x - y ≤ u := by omega
theorem ia_neg (f : lo ≤ x ∧ x ≤ hi) (h1 : l ≤ -hi) (h2 : -lo ≤ u) : l ≤ -x ∧ -x ≤ u := by omega
theorem ia_mul (hk : 0 ≤ k) (f : lo ≤ x ∧ x ≤ hi) (h1 : l ≤ k * lo) (h2 : k * hi ≤ u) : l ≤ k * x ∧ k * x ≤ u := ⟨Int.le_trans h1 (Int.mul_le_mul_of_nonneg_left f.1 hk), Int.le_trans (Int.mul_le_mul_of_nonneg_left f.2 hk) h2⟩
theorem ia_mulr (hk : 0 ≤ k) (f : lo ≤ x ∧ x ≤ hi) (h1 : l ≤ k * lo) (h2 : k * hi ≤ u) : l ≤ x * k ∧ x * k ≤ u := by rw [Int.mul_comm]; exact ia_mul hk f h1 h2
theorem r_lt (f : lo ≤ x ∧ x ≤ hi) (g : lo2 ≤ y ∧ y ≤ hi2) (q : x < y) (h1 : l ≤ lo) (h2 : hi2 ≤ u + 1) : l ≤ x ∧ x ≤ u := by omega
theorem r_le (f : lo ≤ x ∧ x ≤ hi) (g : lo2 ≤ y ∧ y ≤ hi2) (q : x ≤ y) (h1 : l ≤ lo) (h2 : hi2 ≤ u) : l ≤ x ∧ x ≤ u := by omega
theorem r_gt (f : lo ≤ x ∧ x ≤ hi) (g : lo2 ≤ y ∧ y ≤ hi2) (q : y < x) (h1 : l ≤ lo2 + 1) (h2 : hi ≤ u) : l ≤ x ∧ x ≤ u := by omega
theorem r_ge (f : lo ≤ x ∧ x ≤ hi) (g : lo2 ≤ y ∧ y ≤ hi2) (q : y ≤ x) (h1 : l ≤ lo2) (h2 : hi ≤ u) : l ≤ x ∧ x ≤ u := by omega
theorem r_eq (g : lo2 ≤ y ∧ y ≤ hi2) (q : x = y) : lo2 ≤ x ∧ x ≤ hi2 := by omega
theorem r_eq2 (g : lo2 ≤ x ∧ x ≤ hi2) (q : x = y) : lo2 ≤ y ∧ y ≤ hi2 := by omega
theorem r_nl (f : lo ≤ x ∧ x ≤ hi) (q : ¬ x = lo) : lo + 1 ≤ x ∧ x ≤ hi := by omega
theorem r_nh (f : lo ≤ x ∧ x ≤ hi) (q : ¬ x = hi) : lo ≤ x ∧ x ≤ hi - 1 := by omega
theorem sh_a (f : lo ≤ x + c ∧ x + c ≤ hi) (h1 : l ≤ lo - c) (h2 : hi - c ≤ u) : l ≤ x ∧ x ≤ u := by omega
theorem ii (f : lo ≤ x ∧ x ≤ hi) (g : lo2 ≤ x ∧ x ≤ hi2) (h1 : l ≤ lo ∨ l ≤ lo2) (h2 : hi ≤ u ∨ hi2 ≤ u) : l ≤ x ∧ x ≤ u := by omega
theorem no_lt (f : lo ≤ x ∧ x ≤ hi) (g : lo2 ≤ y ∧ y ≤ hi2) (q : x < y) (h : hi2 ≤ lo) : False := by omega
theorem no_le (f : lo ≤ x ∧ x ≤ hi) (g : lo2 ≤ y ∧ y ≤ hi2) (q : x ≤ y) (h : hi2 < lo) : False := by omega
theorem no_eq (f : lo ≤ x ∧ x ≤ hi) (g : lo2 ≤ y ∧ y ≤ hi2) (q : x = y) (h : hi2 < lo ∨ hi < lo2) : False := by omega
theorem no_ne (f : lo ≤ x ∧ x ≤ hi) (g : lo2 ≤ y ∧ y ≤ hi2) (q : ¬ x = y) (h : lo = hi ∧ lo2 = hi2 ∧ lo = lo2) : False := by omega
theorem mu_u {N : Int} {μ : Nat} (hm : (N - x).toNat = μ) (q : x < y) (q2 : x < N) : (N - y).toNat < μ := by omega
theorem mu_d {N : Int} {μ : Nat} (hm : (x - N).toNat = μ) (q : y < x) (q2 : N < x) : (y - N).toNat < μ := by omega
end IV
/-! ranges of numbers that are cut or of bits -/
theorem bShl_4 {y : Int} (f : 0 ≤ y ∧ y ≤ 4) : 1 ≤ bShl 1 y ∧ bShl 1 y ≤ 16 := by
  rcases (show y = 0 ∨ y = 1 ∨ y = 2 ∨ y = 3 ∨ y = 4 by omega) with rfl | rfl | rfl | rfl | rfl <;> decide
theorem bR {f : Int32} : inR f.toInt := inR_of f
theorem bXor_3 {x : Int} (f : 0 ≤ x ∧ x ≤ 3) : 0 ≤ bXor x 1 ∧ bXor x 1 ≤ 3 := by
  rcases (show x = 0 ∨ x = 1 ∨ x = 2 ∨ x = 3 by omega) with rfl | rfl | rfl | rfl <;> decide
theorem rI_1_0 : rI 1 0 = (0, 95, false) := by decide +kernel
theorem rI_1_1 : rI 1 1 = (0, 1, false) := by decide +kernel
theorem rI_1_2 : rI 1 2 = (0, 12, false) := by decide +kernel
theorem rI_1_3 : rI 1 3 = ((-300), 300, false) := by decide +kernel
theorem rI_1_4 : rI 1 4 = ((-300), 300, false) := by decide +kernel
theorem rI_1_5 : rI 1 5 = (0, 99, false) := by decide +kernel
theorem nn_1 : ∀ j, (rE 1 j).2.2 = false := nn_of (by decide +kernel)
theorem rI_2_0 : rI 2 0 = (0, 15, false) := by decide +kernel
theorem rI_2_1 : rI 2 1 = (0, 1, false) := by decide +kernel
theorem rI_2_2 : rI 2 2 = (0, 1, false) := by decide +kernel
theorem rI_2_3 : rI 2 3 = ((-2147483648), 2147483647, false) := by decide +kernel
theorem rI_2_5 : rI 2 5 = (0, 1, false) := by decide +kernel
theorem rI_2_6 : rI 2 6 = (0, 1, false) := by decide +kernel
theorem rE_2_7 : rE 2 7 = (10100, 97, true) := by decide +kernel
theorem rE_2_8 : rE 2 8 = (11100, 97, true) := by decide +kernel
theorem rE_3_0 : rE 3 0 = (12100, 97, true) := by decide +kernel
theorem rE_3_1 : rE 3 1 = (13101, 97, true) := by decide +kernel
theorem rE_3_2 : rE 3 2 = (14101, 97, true) := by decide +kernel
theorem rE_3_3 : rE 3 3 = (15100, 97, true) := by decide +kernel
theorem rE_3_4 : rE 3 4 = (16101, 97, true) := by decide +kernel
theorem rI_3_5 : rI 3 5 = ((-2147483648), 2147483647, false) := by decide +kernel
theorem rE_3_6 : rE 3 6 = (17100, 9, true) := by decide +kernel
theorem rE_3_7 : rE 3 7 = (18100, 9, true) := by decide +kernel
theorem rI_3_8 : rI 3 8 = (0, 8, false) := by decide +kernel
theorem rE_4_0 : rE 4 0 = (19103, 1501, true) := by decide +kernel
theorem rI_4_1 : rI 4 1 = (0, 1500, false) := by decide +kernel
theorem rI_4_2 : rI 4 2 = (0, 1500, false) := by decide +kernel
theorem rI_4_3 : rI 4 3 = (0, 1500, false) := by decide +kernel
theorem rI_4_4 : rI 4 4 = (0, 4, false) := by decide +kernel
theorem rE_4_6 : rE 4 6 = (0, 0, false) := by decide +kernel
theorem rI_4_7 : rI 4 7 = ((-2147483648), 2147483647, false) := by decide +kernel
theorem rI_4_8 : rI 4 8 = ((-2147483648), 2147483647, false) := by decide +kernel
theorem rI_4_9 : rI 4 9 = (0, 1, false) := by decide +kernel
theorem rI_4_10 : rI 4 10 = (0, 1, false) := by decide +kernel
theorem rE_4_11 : rE 4 11 = (20100, 1501, true) := by decide +kernel
theorem rI_4_12 : rI 4 12 = (0, 1500, false) := by decide +kernel
theorem rE_4_13 : rE 4 13 = (0, 0, false) := by decide +kernel
theorem rE_5_0 : rE 5 0 = (21100, 9, true) := by decide +kernel
theorem rE_5_1 : rE 5 1 = (22108, 9, true) := by decide +kernel
theorem rI_5_2 : rI 5 2 = (0, 8, false) := by decide +kernel
theorem rE_5_3 : rE 5 3 = (6, 0, true) := by decide +kernel
theorem rI_6_0 : rI 6 0 = (0, 10, false) := by decide +kernel
theorem rE_6_1 : rE 6 1 = (23102, 11, true) := by decide +kernel
theorem rE_6_2 : rE 6 2 = (24100, 11, true) := by decide +kernel
theorem rE_6_3 : rE 6 3 = (25100, 11, true) := by decide +kernel
theorem rE_6_4 : rE 6 4 = (26100, 21, true) := by decide +kernel
theorem rE_6_5 : rE 6 5 = (27100, 21, true) := by decide +kernel
theorem rI_6_6 : rI 6 6 = ((-2147483648), 2147483647, false) := by decide +kernel
theorem rI_6_7 : rI 6 7 = (0, 99, false) := by decide +kernel
theorem rI_6_8 : rI 6 8 = (0, 99, false) := by decide +kernel
theorem rI_6_9 : rI 6 9 = ((-2147483648), 2147483647, false) := by decide +kernel
theorem rI_6_10 : rI 6 10 = ((-2147483648), 2147483647, false) := by decide +kernel
theorem rE_6_11 : rE 6 11 = (28100, 11, true) := by decide +kernel
theorem rE_6_12 : rE 6 12 = (29100, 11, true) := by decide +kernel
theorem rI_6_13 : rI 6 13 = (0, 24, false) := by decide +kernel
theorem rE_6_14 : rE 6 14 = (30100, 25, true) := by decide +kernel
theorem rE_6_15 : rE 6 15 = (32100, 25, true) := by decide +kernel
theorem rE_6_16 : rE 6 16 = (34100, 25, true) := by decide +kernel
theorem rE_6_17 : rE 6 17 = (36100, 0, true) := by decide +kernel
theorem rE_6_18 : rE 6 18 = (37100, 33, true) := by decide +kernel
theorem rE_7_0 : rE 7 0 = (10, 0, true) := by decide +kernel
theorem rE_7_1 : rE 7 1 = (38104, 41, true) := by decide +kernel
theorem rE_7_2 : rE 7 2 = (39105, 5, true) := by decide +kernel
theorem rI_7_3 : rI 7 3 = (0, 40, false) := by decide +kernel
theorem rI_7_4 : rI 7 4 = (0, 4, false) := by decide +kernel
theorem rI_7_5 : rI 7 5 = (0, 99, false) := by decide +kernel
theorem rE_7_6 : rE 7 6 = (40100, 97, true) := by decide +kernel
theorem rE_7_7 : rE 7 7 = (40100, 97, true) := by decide +kernel
theorem rE_7_8 : rE 7 8 = (40100, 97, true) := by decide +kernel
theorem rE_7_9 : rE 7 9 = (41102, 97, true) := by decide +kernel
theorem rE_7_10 : rE 7 10 = (42102, 97, true) := by decide +kernel
theorem rE_7_11 : rE 7 11 = (43100, 97, true) := by decide +kernel
theorem rI_7_12 : rI 7 12 = (0, 1, false) := by decide +kernel
theorem rE_8_0 : rE 8 0 = (44100, 97, true) := by decide +kernel
theorem rI_9_0 : rI 9 0 = (0, 4, false) := by decide +kernel
theorem rI_9_1 : rI 9 1 = (0, 95, false) := by decide +kernel
theorem rI_9_2 : rI 9 2 = (0, 999, false) := by decide +kernel
theorem rI_9_3 : rI 9 3 = (0, 5, false) := by decide +kernel
theorem rI_9_4 : rI 9 4 = (0, 9999, false) := by decide +kernel
theorem rI_9_5 : rI 9 5 = (0, 9999, false) := by decide +kernel
theorem rI_9_6 : rI 9 6 = ((-1), 9999, false) := by decide +kernel
theorem rI_9_7 : rI 9 7 = ((-1), 3, false) := by decide +kernel
theorem rI_9_8 : rI 9 8 = ((-1), 95, false) := by decide +kernel
theorem rI_9_9 : rI 9 9 = ((-99), 99, false) := by decide +kernel
theorem rI_9_10 : rI 9 10 = (0, 99, false) := by decide +kernel
theorem rI_9_11 : rI 9 11 = ((-1), 9, false) := by decide +kernel
theorem rI_9_12 : rI 9 12 = (0, 1, false) := by decide +kernel
theorem rI_9_13 : rI 9 13 = ((-1), 23, false) := by decide +kernel
theorem rI_9_14 : rI 9 14 = ((-1), 9, false) := by decide +kernel
theorem rI_9_15 : rI 9 15 = (0, 99, false) := by decide +kernel
theorem rI_9_16 : rI 9 16 = (0, 1, false) := by decide +kernel
theorem rI_9_17 : rI 9 17 = ((-2147483648), 2147483647, false) := by decide +kernel
theorem rI_9_18 : rI 9 18 = ((-2147483648), 2147483647, false) := by decide +kernel
theorem nn_9 : ∀ j, (rE 9 j).2.2 = false := nn_of (by decide +kernel)
theorem rE_10_0 : rE 10 0 = (45100, 385, true) := by decide +kernel
theorem rE_10_1 : rE 10 1 = (46102, 385, true) := by decide +kernel
theorem rE_10_2 : rE 10 2 = (47100, 97, true) := by decide +kernel
theorem rI_10_3 : rI 10 3 = (0, 1, false) := by decide +kernel
theorem rI_11_0 : rI 11 0 = (0, 9999, false) := by decide +kernel
theorem rI_11_1 : rI 11 1 = ((-1), 9999, false) := by decide +kernel
theorem rE_11_2 : rE 11 2 = (3, 0, true) := by decide +kernel
theorem rE_11_3 : rE 11 3 = (38104, 41, true) := by decide +kernel
theorem rI_11_4 : rI 11 4 = (0, 40, false) := by decide +kernel
theorem rE_11_5 : rE 11 5 = (4, 0, true) := by decide +kernel
theorem rE_11_6 : rE 11 6 = (5, 0, true) := by decide +kernel
theorem rE_11_7 : rE 11 7 = (6, 0, true) := by decide +kernel
theorem rE_11_8 : rE 11 8 = (39105, 5, true) := by decide +kernel
theorem rI_11_9 : rI 11 9 = (0, 4, false) := by decide +kernel
theorem rI_11_10 : rI 11 10 = (0, 999, false) := by decide +kernel
theorem rE_11_11 : rE 11 11 = (48106, 11, true) := by decide +kernel
theorem rI_11_12 : rI 11 12 = (0, 10, false) := by decide +kernel
theorem rE_11_13 : rE 11 13 = (7, 0, true) := by decide +kernel
theorem rE_11_14 : rE 11 14 = (49107, 17, true) := by decide +kernel
theorem rI_11_15 : rI 11 15 = (0, 1, false) := by decide +kernel
theorem rI_11_16 : rI 11 16 = (0, 1, false) := by decide +kernel
theorem rE_11_17 : rE 11 17 = (2, 0, false) := by decide +kernel
theorem rE_11_18 : rE 11 18 = (50100, 13, true) := by decide +kernel
theorem rI_12_0 : rI 12 0 = (0, 1, false) := by decide +kernel
theorem rE_12_1 : rE 12 1 = (101100, 1501, true) := by decide +kernel
theorem rI_12_2 : rI 12 2 = (0, 1500, false) := by decide +kernel
theorem rI_12_3 : rI 12 3 = (0, 1500, false) := by decide +kernel
theorem rE_12_4 : rE 12 4 = (104100, 1503, true) := by decide +kernel
theorem rE_12_5 : rE 12 5 = (105100, 1503, true) := by decide +kernel
theorem rE_12_6 : rE 12 6 = (106102, 1503, true) := by decide +kernel
theorem rI_12_7 : rI 12 7 = (0, 1501, false) := by decide +kernel
theorem rI_12_8 : rI 12 8 = (0, 24005, false) := by decide +kernel
theorem rE_12_9 : rE 12 9 = (109102, 31, true) := by decide +kernel
theorem rI_12_10 : rI 12 10 = (0, 8, false) := by decide +kernel
theorem rE_12_11 : rE 12 11 = (111100, 10, true) := by decide +kernel
theorem rE_12_12 : rE 12 12 = (112100, 10, true) := by decide +kernel
theorem rE_12_13 : rE 12 13 = (113102, 91, true) := by decide +kernel
theorem rE_12_14 : rE 12 14 = (114100, 91, true) := by decide +kernel
theorem rE_12_15 : rE 12 15 = (115100, 91, true) := by decide +kernel
theorem rE_12_16 : rE 12 16 = (116101, 91, true) := by decide +kernel
theorem rE_12_17 : rE 12 17 = (117101, 91, true) := by decide +kernel
theorem rE_12_18 : rE 12 18 = (118101, 10, true) := by decide +kernel
theorem rE_12_19 : rE 12 19 = (119100, 10, true) := by decide +kernel
theorem rE_12_20 : rE 12 20 = (120101, 10, true) := by decide +kernel
theorem rE_12_21 : rE 12 21 = (121100, 10, true) := by decide +kernel
theorem rE_12_22 : rE 12 22 = (122100, 91, true) := by decide +kernel
theorem rE_12_23 : rE 12 23 = (123100, 91, true) := by decide +kernel
theorem rE_12_24 : rE 12 24 = (124100, 10, true) := by decide +kernel
theorem rE_12_25 : rE 12 25 = (125100, 217, true) := by decide +kernel
theorem rE_12_26 : rE 12 26 = (126100, 217, true) := by decide +kernel
theorem rE_12_27 : rE 12 27 = (127100, 217, true) := by decide +kernel
theorem rI_12_28 : rI 12 28 = (0, 1600, false) := by decide +kernel
theorem rE_12_29 : rE 12 29 = (129100, 14401, true) := by decide +kernel
theorem rE_12_30 : rE 12 30 = (130100, 14401, true) := by decide +kernel
theorem rE_12_31 : rE 12 31 = (131100, 13, true) := by decide +kernel
theorem rE_12_32 : rE 12 32 = (132100, 1601, true) := by decide +kernel
theorem rI_12_33 : rI 12 33 = (0, 9999, false) := by decide +kernel
theorem rI_12_34 : rI 12 34 = ((-1), 9999, false) := by decide +kernel
theorem rI_12_35 : rI 12 35 = (0, 1, false) := by decide +kernel
theorem rE_12_36 : rE 12 36 = (136100, 97, true) := by decide +kernel
theorem rE_12_37 : rE 12 37 = (137101, 97, true) := by decide +kernel
theorem rE_12_38 : rE 12 38 = (138101, 97, true) := by decide +kernel
theorem rE_12_39 : rE 12 39 = (139100, 97, true) := by decide +kernel
theorem rI_12_40 : rI 12 40 = (0, 40, false) := by decide +kernel
theorem rE_12_41 : rE 12 41 = (141100, 41, true) := by decide +kernel
theorem rE_12_42 : rE 12 42 = (142100, 41, true) := by decide +kernel
theorem rE_12_43 : rE 12 43 = (143100, 41, true) := by decide +kernel
theorem rE_12_44 : rE 12 44 = (144100, 41, true) := by decide +kernel
theorem rE_12_45 : rE 12 45 = (145100, 41, true) := by decide +kernel
theorem rE_12_46 : rE 12 46 = (146100, 41, true) := by decide +kernel
theorem rE_12_47 : rE 12 47 = (147100, 41, true) := by decide +kernel
theorem rE_12_48 : rE 12 48 = (148100, 41, true) := by decide +kernel
theorem rE_12_49 : rE 12 49 = (149100, 41, true) := by decide +kernel
theorem rE_12_50 : rE 12 50 = (150100, 41, true) := by decide +kernel
theorem rE_12_51 : rE 12 51 = (151100, 41, true) := by decide +kernel
theorem rE_12_52 : rE 12 52 = (152101, 41, true) := by decide +kernel
theorem rE_12_53 : rE 12 53 = (153101, 41, true) := by decide +kernel
theorem rE_12_54 : rE 12 54 = (154100, 41, true) := by decide +kernel
theorem rE_12_55 : rE 12 55 = (155100, 41, true) := by decide +kernel
theorem rE_12_56 : rE 12 56 = (156100, 41, true) := by decide +kernel
theorem rI_12_57 : rI 12 57 = (0, 4, false) := by decide +kernel
theorem rE_12_58 : rE 12 58 = (158101, 769, true) := by decide +kernel
theorem rE_12_59 : rE 12 59 = (159100, 5, true) := by decide +kernel
theorem rE_12_60 : rE 12 60 = (160100, 5, true) := by decide +kernel
theorem rE_12_61 : rE 12 61 = (161100, 5, true) := by decide +kernel
theorem rI_12_62 : rI 12 62 = (0, 600, false) := by decide +kernel
theorem rE_12_63 : rE 12 63 = (163100, 601, true) := by decide +kernel
theorem rE_12_64 : rE 12 64 = (164100, 601, true) := by decide +kernel
theorem rE_12_65 : rE 12 65 = (165100, 601, true) := by decide +kernel
theorem rE_12_66 : rE 12 66 = (166100, 601, true) := by decide +kernel
theorem rE_12_67 : rE 12 67 = (167100, 98, true) := by decide +kernel
theorem rE_12_68 : rE 12 68 = (168100, 98, true) := by decide +kernel
theorem rE_12_70 : rE 12 70 = (170101, 17, true) := by decide +kernel
theorem rE_12_71 : rE 12 71 = (171100, 17, true) := by decide +kernel
theorem rE_12_72 : rE 12 72 = (172102, 17, true) := by decide +kernel
theorem rE_12_73 : rE 12 73 = (173101, 17, true) := by decide +kernel
theorem rE_12_74 : rE 12 74 = (174101, 17, true) := by decide +kernel
theorem rE_12_75 : rE 12 75 = (175100, 1537, true) := by decide +kernel
theorem rE_12_76 : rE 12 76 = (176100, 1537, true) := by decide +kernel
theorem rI_12_77 : rI 12 77 = ((-1), 15, false) := by decide +kernel
theorem rI_12_78 : rI 12 78 = (0, 16, false) := by decide +kernel
theorem rI_12_79 : rI 12 79 = (0, 999, false) := by decide +kernel
theorem rI_12_80 : rI 12 80 = (0, 10, false) := by decide +kernel
theorem rE_12_81 : rE 12 81 = (181100, 961, true) := by decide +kernel
theorem rE_12_82 : rE 12 82 = (182101, 97, true) := by decide +kernel
theorem rI_12_83 : rI 12 83 = (0, 8, false) := by decide +kernel
theorem rE_12_84 : rE 12 84 = (184100, 9, true) := by decide +kernel
theorem rE_12_85 : rE 12 85 = (185100, 9, true) := by decide +kernel
theorem rE_12_86 : rE 12 86 = (186100, 98, true) := by decide +kernel
theorem rI_1002_0 : rI 1002 0 = (0, 15, false) := by decide +kernel
theorem rI_1002_1 : rI 1002 1 = (0, 1, false) := by decide +kernel
theorem rI_1002_2 : rI 1002 2 = (0, 1, false) := by decide +kernel
theorem rI_1002_3 : rI 1002 3 = ((-2147483648), 2147483647, false) := by decide +kernel
theorem rI_1002_5 : rI 1002 5 = (0, 1, false) := by decide +kernel
theorem rI_1002_6 : rI 1002 6 = (0, 1, false) := by decide +kernel
theorem rE_1002_7 : rE 1002 7 = (10100, 97, false) := by decide +kernel
theorem rE_1002_8 : rE 1002 8 = (11100, 97, false) := by decide +kernel
theorem nn_1002 : ∀ j, (rE 1002 j).2.2 = false := nn_of (by decide +kernel)
theorem nu_1002 : ∀ T j, (rE T j).1 ≠ 1002 := nu_of (by decide) (by decide +kernel)
theorem rE_1003_0 : rE 1003 0 = (12100, 97, false) := by decide +kernel
theorem rE_1003_1 : rE 1003 1 = (13101, 97, false) := by decide +kernel
theorem rE_1003_2 : rE 1003 2 = (14101, 97, false) := by decide +kernel
theorem rE_1003_3 : rE 1003 3 = (15100, 97, false) := by decide +kernel
theorem rE_1003_4 : rE 1003 4 = (16101, 97, false) := by decide +kernel
theorem rI_1003_5 : rI 1003 5 = ((-2147483648), 2147483647, false) := by decide +kernel
theorem rE_1003_6 : rE 1003 6 = (17100, 9, false) := by decide +kernel
theorem rE_1003_7 : rE 1003 7 = (18100, 9, false) := by decide +kernel
theorem rI_1003_8 : rI 1003 8 = (0, 8, false) := by decide +kernel
theorem nn_1003 : ∀ j, (rE 1003 j).2.2 = false := nn_of (by decide +kernel)
theorem nu_1003 : ∀ T j, (rE T j).1 ≠ 1003 := nu_of (by decide) (by decide +kernel)
theorem rE_1004_0 : rE 1004 0 = (19103, 1501, false) := by decide +kernel
theorem rI_1004_1 : rI 1004 1 = (0, 1500, false) := by decide +kernel
theorem rI_1004_2 : rI 1004 2 = (0, 1500, false) := by decide +kernel
theorem rI_1004_3 : rI 1004 3 = (0, 1500, false) := by decide +kernel
theorem rI_1004_4 : rI 1004 4 = (0, 4, false) := by decide +kernel
theorem rE_1004_6 : rE 1004 6 = (0, 0, false) := by decide +kernel
theorem rI_1004_7 : rI 1004 7 = ((-2147483648), 2147483647, false) := by decide +kernel
theorem rI_1004_8 : rI 1004 8 = ((-2147483648), 2147483647, false) := by decide +kernel
theorem rI_1004_9 : rI 1004 9 = (0, 1, false) := by decide +kernel
theorem rI_1004_10 : rI 1004 10 = (0, 1, false) := by decide +kernel
theorem rE_1004_11 : rE 1004 11 = (20100, 1501, false) := by decide +kernel
theorem rI_1004_12 : rI 1004 12 = (0, 1500, false) := by decide +kernel
theorem rE_1004_13 : rE 1004 13 = (0, 0, false) := by decide +kernel
theorem nn_1004 : ∀ j, (rE 1004 j).2.2 = false := nn_of (by decide +kernel)
theorem nu_1004 : ∀ T j, (rE T j).1 ≠ 1004 := nu_of (by decide) (by decide +kernel)
theorem rE_1005_0 : rE 1005 0 = (21100, 9, false) := by decide +kernel
theorem rE_1005_1 : rE 1005 1 = (22108, 9, false) := by decide +kernel
theorem rI_1005_2 : rI 1005 2 = (0, 8, false) := by decide +kernel
theorem rE_1005_3 : rE 1005 3 = (6, 0, false) := by decide +kernel
theorem nn_1005 : ∀ j, (rE 1005 j).2.2 = false := nn_of (by decide +kernel)
theorem nu_1005 : ∀ T j, (rE T j).1 ≠ 1005 := nu_of (by decide) (by decide +kernel)
theorem rI_1006_0 : rI 1006 0 = (0, 10, false) := by decide +kernel
theorem rE_1006_1 : rE 1006 1 = (23102, 11, false) := by decide +kernel
theorem rE_1006_2 : rE 1006 2 = (24100, 11, false) := by decide +kernel
theorem rE_1006_3 : rE 1006 3 = (25100, 11, false) := by decide +kernel
theorem rE_1006_4 : rE 1006 4 = (26100, 21, false) := by decide +kernel
theorem rE_1006_5 : rE 1006 5 = (27100, 21, false) := by decide +kernel
theorem rI_1006_6 : rI 1006 6 = ((-2147483648), 2147483647, false) := by decide +kernel
theorem rI_1006_7 : rI 1006 7 = (0, 99, false) := by decide +kernel
theorem rI_1006_8 : rI 1006 8 = (0, 99, false) := by decide +kernel
theorem rI_1006_9 : rI 1006 9 = ((-2147483648), 2147483647, false) := by decide +kernel
theorem rI_1006_10 : rI 1006 10 = ((-2147483648), 2147483647, false) := by decide +kernel
theorem rE_1006_11 : rE 1006 11 = (28100, 11, false) := by decide +kernel
theorem rE_1006_12 : rE 1006 12 = (29100, 11, false) := by decide +kernel
theorem rI_1006_13 : rI 1006 13 = (0, 24, false) := by decide +kernel
theorem rE_1006_14 : rE 1006 14 = (31100, 25, false) := by decide +kernel
theorem rE_1006_15 : rE 1006 15 = (33100, 25, false) := by decide +kernel
theorem rE_1006_16 : rE 1006 16 = (35100, 25, false) := by decide +kernel
theorem rE_1006_17 : rE 1006 17 = (36100, 0, false) := by decide +kernel
theorem rE_1006_18 : rE 1006 18 = (37100, 33, false) := by decide +kernel
theorem nn_1006 : ∀ j, (rE 1006 j).2.2 = false := nn_of (by decide +kernel)
theorem nu_1006 : ∀ T j, (rE T j).1 ≠ 1006 := nu_of (by decide) (by decide +kernel)
theorem rE_1007_0 : rE 1007 0 = (10, 0, false) := by decide +kernel
theorem rE_1007_1 : rE 1007 1 = (38104, 41, false) := by decide +kernel
theorem rE_1007_2 : rE 1007 2 = (39105, 5, false) := by decide +kernel
theorem rI_1007_3 : rI 1007 3 = (0, 40, false) := by decide +kernel
theorem rI_1007_4 : rI 1007 4 = (0, 4, false) := by decide +kernel
theorem rI_1007_5 : rI 1007 5 = (0, 99, false) := by decide +kernel
theorem rE_1007_6 : rE 1007 6 = (40100, 97, false) := by decide +kernel
theorem rE_1007_7 : rE 1007 7 = (40100, 97, false) := by decide +kernel
theorem rE_1007_8 : rE 1007 8 = (40100, 97, false) := by decide +kernel
theorem rE_1007_9 : rE 1007 9 = (41102, 97, false) := by decide +kernel
theorem rE_1007_10 : rE 1007 10 = (42102, 97, false) := by decide +kernel
theorem rE_1007_11 : rE 1007 11 = (43100, 97, false) := by decide +kernel
theorem rI_1007_12 : rI 1007 12 = (0, 1, false) := by decide +kernel
theorem nn_1007 : ∀ j, (rE 1007 j).2.2 = false := nn_of (by decide +kernel)
theorem nu_1007 : ∀ T j, (rE T j).1 ≠ 1007 := nu_of (by decide) (by decide +kernel)
theorem rE_1008_0 : rE 1008 0 = (44100, 97, false) := by decide +kernel
theorem nn_1008 : ∀ j, (rE 1008 j).2.2 = false := nn_of (by decide +kernel)
theorem nu_1008 : ∀ T j, (rE T j).1 ≠ 1008 := nu_of (by decide) (by decide +kernel)
theorem rE_1010_0 : rE 1010 0 = (45100, 385, false) := by decide +kernel
theorem rE_1010_1 : rE 1010 1 = (46102, 385, false) := by decide +kernel
theorem rE_1010_2 : rE 1010 2 = (47100, 97, false) := by decide +kernel
theorem rI_1010_3 : rI 1010 3 = (0, 1, false) := by decide +kernel
theorem nn_1010 : ∀ j, (rE 1010 j).2.2 = false := nn_of (by decide +kernel)
theorem nu_1010 : ∀ T j, (rE T j).1 ≠ 1010 := nu_of (by decide) (by decide +kernel)
theorem rI_1011_0 : rI 1011 0 = (0, 9999, false) := by decide +kernel
theorem rI_1011_1 : rI 1011 1 = ((-1), 9999, false) := by decide +kernel
theorem rE_1011_2 : rE 1011 2 = (3, 0, false) := by decide +kernel
theorem rE_1011_3 : rE 1011 3 = (38104, 41, false) := by decide +kernel
theorem rI_1011_4 : rI 1011 4 = (0, 40, false) := by decide +kernel
theorem rE_1011_5 : rE 1011 5 = (4, 0, false) := by decide +kernel
theorem rE_1011_6 : rE 1011 6 = (5, 0, false) := by decide +kernel
theorem rE_1011_7 : rE 1011 7 = (6, 0, false) := by decide +kernel
theorem rE_1011_8 : rE 1011 8 = (39105, 5, false) := by decide +kernel
theorem rI_1011_9 : rI 1011 9 = (0, 4, false) := by decide +kernel
theorem rI_1011_10 : rI 1011 10 = (0, 999, false) := by decide +kernel
theorem rE_1011_11 : rE 1011 11 = (48106, 11, false) := by decide +kernel
theorem rI_1011_12 : rI 1011 12 = (0, 10, false) := by decide +kernel
theorem rE_1011_13 : rE 1011 13 = (7, 0, false) := by decide +kernel
theorem rE_1011_14 : rE 1011 14 = (49107, 17, false) := by decide +kernel
theorem rI_1011_15 : rI 1011 15 = (0, 1, false) := by decide +kernel
theorem rI_1011_16 : rI 1011 16 = (0, 1, false) := by decide +kernel
theorem rE_1011_17 : rE 1011 17 = (2, 0, false) := by decide +kernel
theorem rE_1011_18 : rE 1011 18 = (50100, 13, false) := by decide +kernel
theorem nn_1011 : ∀ j, (rE 1011 j).2.2 = false := nn_of (by decide +kernel)
theorem nu_1011 : ∀ T j, (rE T j).1 ≠ 1011 := nu_of (by decide) (by decide +kernel)
theorem rI_1012_0 : rI 1012 0 = (0, 1, false) := by decide +kernel
theorem rE_1012_1 : rE 1012 1 = (101100, 1501, false) := by decide +kernel
theorem rI_1012_2 : rI 1012 2 = (0, 1500, false) := by decide +kernel
theorem rI_1012_3 : rI 1012 3 = (0, 1500, false) := by decide +kernel
theorem rE_1012_4 : rE 1012 4 = (104100, 1503, false) := by decide +kernel
theorem rE_1012_5 : rE 1012 5 = (105100, 1503, false) := by decide +kernel
theorem rE_1012_6 : rE 1012 6 = (106102, 1503, false) := by decide +kernel
theorem rI_1012_7 : rI 1012 7 = (0, 1501, false) := by decide +kernel
theorem rI_1012_8 : rI 1012 8 = (0, 24005, false) := by decide +kernel
theorem rE_1012_9 : rE 1012 9 = (109102, 31, false) := by decide +kernel
theorem rI_1012_10 : rI 1012 10 = (0, 8, false) := by decide +kernel
theorem rE_1012_11 : rE 1012 11 = (111100, 10, false) := by decide +kernel
theorem rE_1012_12 : rE 1012 12 = (112100, 10, false) := by decide +kernel
theorem rE_1012_13 : rE 1012 13 = (113102, 91, false) := by decide +kernel
theorem rE_1012_14 : rE 1012 14 = (114100, 91, false) := by decide +kernel
theorem rE_1012_15 : rE 1012 15 = (115100, 91, false) := by decide +kernel
theorem rE_1012_16 : rE 1012 16 = (116101, 91, false) := by decide +kernel
theorem rE_1012_17 : rE 1012 17 = (117101, 91, false) := by decide +kernel
theorem rE_1012_18 : rE 1012 18 = (118101, 10, false) := by decide +kernel
theorem rE_1012_19 : rE 1012 19 = (119100, 10, false) := by decide +kernel
theorem rE_1012_20 : rE 1012 20 = (120101, 10, false) := by decide +kernel
theorem rE_1012_21 : rE 1012 21 = (121100, 10, false) := by decide +kernel
theorem rE_1012_22 : rE 1012 22 = (122100, 91, false) := by decide +kernel
theorem rE_1012_23 : rE 1012 23 = (123100, 91, false) := by decide +kernel
theorem rE_1012_24 : rE 1012 24 = (124100, 10, false) := by decide +kernel
theorem rE_1012_25 : rE 1012 25 = (125100, 217, false) := by decide +kernel
theorem rE_1012_26 : rE 1012 26 = (126100, 217, false) := by decide +kernel
theorem rE_1012_27 : rE 1012 27 = (127100, 217, false) := by decide +kernel
theorem rI_1012_28 : rI 1012 28 = (0, 1600, false) := by decide +kernel
theorem rE_1012_29 : rE 1012 29 = (129100, 14401, false) := by decide +kernel
theorem rE_1012_30 : rE 1012 30 = (130100, 14401, false) := by decide +kernel
theorem rE_1012_31 : rE 1012 31 = (131100, 13, false) := by decide +kernel
theorem rE_1012_32 : rE 1012 32 = (132100, 1601, false) := by decide +kernel
theorem rI_1012_33 : rI 1012 33 = (0, 9999, false) := by decide +kernel
theorem rI_1012_34 : rI 1012 34 = ((-1), 9999, false) := by decide +kernel
theorem rI_1012_35 : rI 1012 35 = (0, 1, false) := by decide +kernel
theorem rE_1012_36 : rE 1012 36 = (136100, 97, false) := by decide +kernel
theorem rE_1012_37 : rE 1012 37 = (137101, 97, false) := by decide +kernel
theorem rE_1012_38 : rE 1012 38 = (138101, 97, false) := by decide +kernel
theorem rE_1012_39 : rE 1012 39 = (139100, 97, false) := by decide +kernel
theorem rI_1012_40 : rI 1012 40 = (0, 40, false) := by decide +kernel
theorem rE_1012_41 : rE 1012 41 = (141100, 41, false) := by decide +kernel
theorem rE_1012_42 : rE 1012 42 = (142100, 41, false) := by decide +kernel
theorem rE_1012_43 : rE 1012 43 = (143100, 41, false) := by decide +kernel
theorem rE_1012_44 : rE 1012 44 = (144100, 41, false) := by decide +kernel
theorem rE_1012_45 : rE 1012 45 = (145100, 41, false) := by decide +kernel
theorem rE_1012_46 : rE 1012 46 = (146100, 41, false) := by decide +kernel
theorem rE_1012_47 : rE 1012 47 = (147100, 41, false) := by decide +kernel
theorem rE_1012_48 : rE 1012 48 = (148100, 41, false) := by decide +kernel
theorem rE_1012_49 : rE 1012 49 = (149100, 41, false) := by decide +kernel
theorem rE_1012_50 : rE 1012 50 = (150100, 41, false) := by decide +kernel
theorem rE_1012_51 : rE 1012 51 = (151100, 41, false) := by decide +kernel
theorem rE_1012_52 : rE 1012 52 = (152101, 41, false) := by decide +kernel
theorem rE_1012_53 : rE 1012 53 = (153101, 41, false) := by decide +kernel
theorem rE_1012_54 : rE 1012 54 = (154100, 41, false) := by decide +kernel
theorem rE_1012_55 : rE 1012 55 = (155100, 41, false) := by decide +kernel
theorem rE_1012_56 : rE 1012 56 = (156100, 41, false) := by decide +kernel
theorem rI_1012_57 : rI 1012 57 = (0, 4, false) := by decide +kernel
theorem rE_1012_58 : rE 1012 58 = (158101, 769, false) := by decide +kernel
theorem rE_1012_59 : rE 1012 59 = (159100, 5, false) := by decide +kernel
theorem rE_1012_60 : rE 1012 60 = (160100, 5, false) := by decide +kernel
theorem rE_1012_61 : rE 1012 61 = (161100, 5, false) := by decide +kernel
theorem rI_1012_62 : rI 1012 62 = (0, 600, false) := by decide +kernel
theorem rE_1012_63 : rE 1012 63 = (163100, 601, false) := by decide +kernel
theorem rE_1012_64 : rE 1012 64 = (164100, 601, false) := by decide +kernel
theorem rE_1012_65 : rE 1012 65 = (165100, 601, false) := by decide +kernel
theorem rE_1012_66 : rE 1012 66 = (166100, 601, false) := by decide +kernel
theorem rE_1012_67 : rE 1012 67 = (167100, 98, false) := by decide +kernel
theorem rE_1012_68 : rE 1012 68 = (168100, 98, false) := by decide +kernel
theorem rE_1012_70 : rE 1012 70 = (170101, 17, false) := by decide +kernel
theorem rE_1012_71 : rE 1012 71 = (171100, 17, false) := by decide +kernel
theorem rE_1012_72 : rE 1012 72 = (172102, 17, false) := by decide +kernel
theorem rE_1012_73 : rE 1012 73 = (173101, 17, false) := by decide +kernel
theorem rE_1012_74 : rE 1012 74 = (174101, 17, false) := by decide +kernel
theorem rE_1012_75 : rE 1012 75 = (175100, 1537, false) := by decide +kernel
theorem rE_1012_76 : rE 1012 76 = (176100, 1537, false) := by decide +kernel
theorem rI_1012_77 : rI 1012 77 = ((-1), 15, false) := by decide +kernel
theorem rI_1012_78 : rI 1012 78 = (0, 16, false) := by decide +kernel
theorem rI_1012_79 : rI 1012 79 = (0, 999, false) := by decide +kernel
theorem rI_1012_80 : rI 1012 80 = (0, 10, false) := by decide +kernel
theorem rE_1012_81 : rE 1012 81 = (181100, 961, false) := by decide +kernel
theorem rE_1012_82 : rE 1012 82 = (182101, 97, false) := by decide +kernel
theorem rI_1012_83 : rI 1012 83 = (0, 8, false) := by decide +kernel
theorem rE_1012_84 : rE 1012 84 = (184100, 9, false) := by decide +kernel
theorem rE_1012_85 : rE 1012 85 = (185100, 9, false) := by decide +kernel
theorem rE_1012_86 : rE 1012 86 = (186100, 98, false) := by decide +kernel
theorem nn_1012 : ∀ j, (rE 1012 j).2.2 = false := nn_of (by decide +kernel)
theorem nu_1012 : ∀ T j, (rE T j).1 ≠ 1012 := nu_of (by decide) (by decide +kernel)
theorem rI_2006_0 : rI 2006 0 = (0, 10, false) := by decide +kernel
theorem rE_2006_1 : rE 2006 1 = (23102, 11, true) := by decide +kernel
theorem rE_2006_2 : rE 2006 2 = (24100, 11, true) := by decide +kernel
theorem rE_2006_3 : rE 2006 3 = (25100, 11, true) := by decide +kernel
theorem rE_2006_4 : rE 2006 4 = (26100, 21, true) := by decide +kernel
theorem rE_2006_5 : rE 2006 5 = (27100, 21, true) := by decide +kernel
theorem rI_2006_6 : rI 2006 6 = ((-2147483648), 2147483647, false) := by decide +kernel
theorem rI_2006_7 : rI 2006 7 = (0, 99, false) := by decide +kernel
theorem rI_2006_8 : rI 2006 8 = (0, 99, false) := by decide +kernel
theorem rI_2006_9 : rI 2006 9 = ((-2147483648), 2147483647, false) := by decide +kernel
theorem rI_2006_10 : rI 2006 10 = ((-2147483648), 2147483647, false) := by decide +kernel
theorem rE_2006_11 : rE 2006 11 = (28100, 11, true) := by decide +kernel
theorem rE_2006_12 : rE 2006 12 = (29100, 11, true) := by decide +kernel
theorem rI_2006_13 : rI 2006 13 = (0, 24, false) := by decide +kernel
theorem rE_2006_14 : rE 2006 14 = (31100, 25, true) := by decide +kernel
theorem rE_2006_15 : rE 2006 15 = (33100, 25, true) := by decide +kernel
theorem rE_2006_16 : rE 2006 16 = (35100, 25, true) := by decide +kernel
theorem rE_2006_17 : rE 2006 17 = (36100, 0, true) := by decide +kernel
theorem rE_2006_18 : rE 2006 18 = (37100, 33, true) := by decide +kernel
theorem nu_2006 : ∀ T j, (rE T j).1 ≠ 2006 := nu_of (by decide) (by decide +kernel)
theorem rI_3006_0 : rI 3006 0 = (0, 10, false) := by decide +kernel
theorem rE_3006_1 : rE 3006 1 = (0, 0, false) := by decide +kernel
theorem rE_3006_2 : rE 3006 2 = (0, 0, false) := by decide +kernel
theorem rE_3006_3 : rE 3006 3 = (0, 0, false) := by decide +kernel
theorem rE_3006_4 : rE 3006 4 = (0, 0, false) := by decide +kernel
theorem rE_3006_5 : rE 3006 5 = (0, 0, false) := by decide +kernel
theorem rI_3006_6 : rI 3006 6 = ((-2147483648), 2147483647, false) := by decide +kernel
theorem rI_3006_7 : rI 3006 7 = (0, 99, false) := by decide +kernel
theorem rI_3006_8 : rI 3006 8 = (0, 99, false) := by decide +kernel
theorem rI_3006_9 : rI 3006 9 = ((-2147483648), 2147483647, false) := by decide +kernel
theorem rI_3006_10 : rI 3006 10 = ((-2147483648), 2147483647, false) := by decide +kernel
theorem rE_3006_11 : rE 3006 11 = (0, 0, false) := by decide +kernel
theorem rE_3006_12 : rE 3006 12 = (0, 0, false) := by decide +kernel
theorem rI_3006_13 : rI 3006 13 = (0, 24, false) := by decide +kernel
theorem rE_3006_14 : rE 3006 14 = (0, 0, false) := by decide +kernel
theorem rE_3006_15 : rE 3006 15 = (0, 0, false) := by decide +kernel
theorem rE_3006_16 : rE 3006 16 = (0, 0, false) := by decide +kernel
theorem rE_3006_17 : rE 3006 17 = (0, 0, false) := by decide +kernel
theorem rE_3006_18 : rE 3006 18 = (0, 0, false) := by decide +kernel
theorem nu_3006 : ∀ T j, (rE T j).1 ≠ 3006 := nu_of (by decide) (by decide +kernel)
theorem rI_10100_0 : rI 10100 0 = ((-2147483648), 2147483647, false) := by decide +kernel
theorem nn_10100 : ∀ j, (rE 10100 j).2.2 = false := nn_of (by decide +kernel)
theorem ar_10100 : ¬ 10100 % 1000 < 100 := by decide
theorem rI_11100_0 : rI 11100 0 = ((-2147483648), 2147483647, false) := by decide +kernel
theorem nn_11100 : ∀ j, (rE 11100 j).2.2 = false := nn_of (by decide +kernel)
theorem ar_11100 : ¬ 11100 % 1000 < 100 := by decide
theorem rI_12100_0 : rI 12100 0 = (0, 999, false) := by decide +kernel
theorem nn_12100 : ∀ j, (rE 12100 j).2.2 = false := nn_of (by decide +kernel)
theorem ar_12100 : ¬ 12100 % 1000 < 100 := by decide
theorem rI_13101_0 : rI 13101 0 = (0, 1, false) := by decide +kernel
theorem nn_13101 : ∀ j, (rE 13101 j).2.2 = false := nn_of (by decide +kernel)
theorem ar_13101 : ¬ 13101 % 1000 < 100 := by decide
theorem rI_14101_0 : rI 14101 0 = (0, 1, false) := by decide +kernel
theorem nn_14101 : ∀ j, (rE 14101 j).2.2 = false := nn_of (by decide +kernel)
theorem ar_14101 : ¬ 14101 % 1000 < 100 := by decide
theorem rI_15100_0 : rI 15100 0 = ((-1), 3, false) := by decide +kernel
theorem nn_15100 : ∀ j, (rE 15100 j).2.2 = false := nn_of (by decide +kernel)
theorem ar_15100 : ¬ 15100 % 1000 < 100 := by decide
theorem rI_16101_0 : rI 16101 0 = (0, 1, false) := by decide +kernel
theorem nn_16101 : ∀ j, (rE 16101 j).2.2 = false := nn_of (by decide +kernel)
theorem ar_16101 : ¬ 16101 % 1000 < 100 := by decide
theorem rI_17100_0 : rI 17100 0 = (0, 95, false) := by decide +kernel
theorem nn_17100 : ∀ j, (rE 17100 j).2.2 = false := nn_of (by decide +kernel)
theorem ar_17100 : ¬ 17100 % 1000 < 100 := by decide
theorem rI_18100_0 : rI 18100 0 = (0, 99, false) := by decide +kernel
theorem nn_18100 : ∀ j, (rE 18100 j).2.2 = false := nn_of (by decide +kernel)
theorem ar_18100 : ¬ 18100 % 1000 < 100 := by decide
theorem rI_19103_0 : rI 19103 0 = (0, 126, false) := by decide +kernel
theorem nn_19103 : ∀ j, (rE 19103 j).2.2 = false := nn_of (by decide +kernel)
theorem ar_19103 : ¬ 19103 % 1000 < 100 := by decide
theorem rI_20100_0 : rI 20100 0 = ((-2147483648), 2147483647, true) := by decide +kernel
theorem nn_20100 : ∀ j, (rE 20100 j).2.2 = false := nn_of (by decide +kernel)
theorem ar_20100 : ¬ 20100 % 1000 < 100 := by decide
theorem rI_21100_0 : rI 21100 0 = (0, 9999, false) := by decide +kernel
theorem nn_21100 : ∀ j, (rE 21100 j).2.2 = false := nn_of (by decide +kernel)
theorem ar_21100 : ¬ 21100 % 1000 < 100 := by decide
theorem rE_22108_0 : rE 22108 0 = (6, 0, false) := by decide +kernel
theorem nn_22108 : ∀ j, (rE 22108 j).2.2 = false := nn_of (by decide +kernel)
theorem ar_22108 : ¬ 22108 % 1000 < 100 := by decide
theorem nn_23102 : ∀ j, (rE 23102 j).2.2 = false := nn_of (by decide +kernel)
theorem ar_23102 : ¬ 23102 % 1000 < 100 := by decide
theorem rI_24100_0 : rI 24100 0 = (0, 200, false) := by decide +kernel
theorem nn_24100 : ∀ j, (rE 24100 j).2.2 = false := nn_of (by decide +kernel)
theorem ar_24100 : ¬ 24100 % 1000 < 100 := by decide
theorem rI_25100_0 : rI 25100 0 = (0, 200, false) := by decide +kernel
theorem nn_25100 : ∀ j, (rE 25100 j).2.2 = false := nn_of (by decide +kernel)
theorem ar_25100 : ¬ 25100 % 1000 < 100 := by decide
theorem rI_26100_0 : rI 26100 0 = ((-2147483648), 2147483647, false) := by decide +kernel
theorem nn_26100 : ∀ j, (rE 26100 j).2.2 = false := nn_of (by decide +kernel)
theorem ar_26100 : ¬ 26100 % 1000 < 100 := by decide
theorem rI_27100_0 : rI 27100 0 = ((-2147483648), 2147483647, false) := by decide +kernel
theorem nn_27100 : ∀ j, (rE 27100 j).2.2 = false := nn_of (by decide +kernel)
theorem ar_27100 : ¬ 27100 % 1000 < 100 := by decide
theorem rI_28100_0 : rI 28100 0 = ((-1), 9, false) := by decide +kernel
theorem nn_28100 : ∀ j, (rE 28100 j).2.2 = false := nn_of (by decide +kernel)
theorem ar_28100 : ¬ 28100 % 1000 < 100 := by decide
theorem rI_29100_0 : rI 29100 0 = (0, 9, false) := by decide +kernel
theorem nn_29100 : ∀ j, (rE 29100 j).2.2 = false := nn_of (by decide +kernel)
theorem ar_29100 : ¬ 29100 % 1000 < 100 := by decide
theorem rI_30100_0 : rI 30100 0 = (0, 2, false) := by decide +kernel
theorem nn_30100 : ∀ j, (rE 30100 j).2.2 = false := nn_of (by decide +kernel)
theorem ar_30100 : ¬ 30100 % 1000 < 100 := by decide
theorem rI_31100_0 : rI 31100 0 = (0, 2, false) := by decide +kernel
theorem nn_31100 : ∀ j, (rE 31100 j).2.2 = false := nn_of (by decide +kernel)
theorem ar_31100 : ¬ 31100 % 1000 < 100 := by decide
theorem rI_32100_0 : rI 32100 0 = (0, 99, false) := by decide +kernel
theorem nn_32100 : ∀ j, (rE 32100 j).2.2 = false := nn_of (by decide +kernel)
theorem ar_32100 : ¬ 32100 % 1000 < 100 := by decide
theorem rI_33100_0 : rI 33100 0 = (0, 99, false) := by decide +kernel
theorem nn_33100 : ∀ j, (rE 33100 j).2.2 = false := nn_of (by decide +kernel)
theorem ar_33100 : ¬ 33100 % 1000 < 100 := by decide
theorem rI_34100_0 : rI 34100 0 = (0, 1500, false) := by decide +kernel
theorem nn_34100 : ∀ j, (rE 34100 j).2.2 = false := nn_of (by decide +kernel)
theorem ar_34100 : ¬ 34100 % 1000 < 100 := by decide
theorem rI_35100_0 : rI 35100 0 = (0, 1500, false) := by decide +kernel
theorem nn_35100 : ∀ j, (rE 35100 j).2.2 = false := nn_of (by decide +kernel)
theorem ar_35100 : ¬ 35100 % 1000 < 100 := by decide
theorem rI_36100_0 : rI 36100 0 = ((-2147483648), 2147483647, true) := by decide +kernel
theorem nn_36100 : ∀ j, (rE 36100 j).2.2 = false := nn_of (by decide +kernel)
theorem ar_36100 : ¬ 36100 % 1000 < 100 := by decide
theorem rI_37100_0 : rI 37100 0 = ((-2147483648), 2147483647, false) := by decide +kernel
theorem nn_37100 : ∀ j, (rE 37100 j).2.2 = false := nn_of (by decide +kernel)
theorem ar_37100 : ¬ 37100 % 1000 < 100 := by decide
theorem rE_38104_0 : rE 38104 0 = (9, 0, false) := by decide +kernel
theorem nn_38104 : ∀ j, (rE 38104 j).2.2 = false := nn_of (by decide +kernel)
theorem ar_38104 : ¬ 38104 % 1000 < 100 := by decide
theorem rE_39105_0 : rE 39105 0 = (1, 0, false) := by decide +kernel
theorem nn_39105 : ∀ j, (rE 39105 j).2.2 = false := nn_of (by decide +kernel)
theorem ar_39105 : ¬ 39105 % 1000 < 100 := by decide
theorem rI_40100_0 : rI 40100 0 = ((-2147483648), 2147483647, false) := by decide +kernel
theorem nn_40100 : ∀ j, (rE 40100 j).2.2 = false := nn_of (by decide +kernel)
theorem ar_40100 : ¬ 40100 % 1000 < 100 := by decide
theorem nn_41102 : ∀ j, (rE 41102 j).2.2 = false := nn_of (by decide +kernel)
theorem ar_41102 : ¬ 41102 % 1000 < 100 := by decide
theorem nn_42102 : ∀ j, (rE 42102 j).2.2 = false := nn_of (by decide +kernel)
theorem ar_42102 : ¬ 42102 % 1000 < 100 := by decide
theorem rI_43100_0 : rI 43100 0 = ((-1), 95, false) := by decide +kernel
theorem nn_43100 : ∀ j, (rE 43100 j).2.2 = false := nn_of (by decide +kernel)
theorem ar_43100 : ¬ 43100 % 1000 < 100 := by decide
theorem rI_44100_0 : rI 44100 0 = ((-2147483648), 2147483647, false) := by decide +kernel
theorem nn_44100 : ∀ j, (rE 44100 j).2.2 = false := nn_of (by decide +kernel)
theorem ar_44100 : ¬ 44100 % 1000 < 100 := by decide
theorem rI_45100_0 : rI 45100 0 = ((-2147483648), 2147483647, false) := by decide +kernel
theorem nn_45100 : ∀ j, (rE 45100 j).2.2 = false := nn_of (by decide +kernel)
theorem ar_45100 : ¬ 45100 % 1000 < 100 := by decide
theorem nn_46102 : ∀ j, (rE 46102 j).2.2 = false := nn_of (by decide +kernel)
theorem ar_46102 : ¬ 46102 % 1000 < 100 := by decide
theorem rI_47100_0 : rI 47100 0 = ((-1), 383, false) := by decide +kernel
theorem nn_47100 : ∀ j, (rE 47100 j).2.2 = false := nn_of (by decide +kernel)
theorem ar_47100 : ¬ 47100 % 1000 < 100 := by decide
theorem rE_48106_0 : rE 48106 0 = (8, 0, false) := by decide +kernel
theorem nn_48106 : ∀ j, (rE 48106 j).2.2 = false := nn_of (by decide +kernel)
theorem ar_48106 : ¬ 48106 % 1000 < 100 := by decide
theorem rE_49107_0 : rE 49107 0 = (2, 0, false) := by decide +kernel
theorem nn_49107 : ∀ j, (rE 49107 j).2.2 = false := nn_of (by decide +kernel)
theorem ar_49107 : ¬ 49107 % 1000 < 100 := by decide
theorem rI_50100_0 : rI 50100 0 = ((-2147483648), 2147483647, false) := by decide +kernel
theorem nn_50100 : ∀ j, (rE 50100 j).2.2 = false := nn_of (by decide +kernel)
theorem ar_50100 : ¬ 50100 % 1000 < 100 := by decide
theorem rI_101100_0 : rI 101100 0 = (0, 126, false) := by decide +kernel
theorem nn_101100 : ∀ j, (rE 101100 j).2.2 = false := nn_of (by decide +kernel)
theorem ar_101100 : ¬ 101100 % 1000 < 100 := by decide
theorem rI_104100_0 : rI 104100 0 = (0, 4, false) := by decide +kernel
theorem nn_104100 : ∀ j, (rE 104100 j).2.2 = false := nn_of (by decide +kernel)
theorem ar_104100 : ¬ 104100 % 1000 < 100 := by decide
theorem rI_105100_0 : rI 105100 0 = (0, 1500, false) := by decide +kernel
theorem nn_105100 : ∀ j, (rE 105100 j).2.2 = false := nn_of (by decide +kernel)
theorem ar_105100 : ¬ 105100 % 1000 < 100 := by decide
theorem nn_106102 : ∀ j, (rE 106102 j).2.2 = false := nn_of (by decide +kernel)
theorem ar_106102 : ¬ 106102 % 1000 < 100 := by decide
theorem nn_109102 : ∀ j, (rE 109102 j).2.2 = false := nn_of (by decide +kernel)
theorem ar_109102 : ¬ 109102 % 1000 < 100 := by decide
theorem rI_111100_0 : rI 111100 0 = (0, 9999, false) := by decide +kernel
theorem nn_111100 : ∀ j, (rE 111100 j).2.2 = false := nn_of (by decide +kernel)
theorem ar_111100 : ¬ 111100 % 1000 < 100 := by decide
theorem rI_112100_0 : rI 112100 0 = (0, 10, false) := by decide +kernel
theorem nn_112100 : ∀ j, (rE 112100 j).2.2 = false := nn_of (by decide +kernel)
theorem ar_112100 : ¬ 112100 % 1000 < 100 := by decide
theorem nn_113102 : ∀ j, (rE 113102 j).2.2 = false := nn_of (by decide +kernel)
theorem ar_113102 : ¬ 113102 % 1000 < 100 := by decide
theorem rI_114100_0 : rI 114100 0 = (0, 200, false) := by decide +kernel
theorem nn_114100 : ∀ j, (rE 114100 j).2.2 = false := nn_of (by decide +kernel)
theorem ar_114100 : ¬ 114100 % 1000 < 100 := by decide
theorem rI_115100_0 : rI 115100 0 = (0, 200, false) := by decide +kernel
theorem nn_115100 : ∀ j, (rE 115100 j).2.2 = false := nn_of (by decide +kernel)
theorem ar_115100 : ¬ 115100 % 1000 < 100 := by decide
theorem rI_116101_0 : rI 116101 0 = (0, 1, false) := by decide +kernel
theorem nn_116101 : ∀ j, (rE 116101 j).2.2 = false := nn_of (by decide +kernel)
theorem ar_116101 : ¬ 116101 % 1000 < 100 := by decide
theorem rI_117101_0 : rI 117101 0 = (0, 1, false) := by decide +kernel
theorem nn_117101 : ∀ j, (rE 117101 j).2.2 = false := nn_of (by decide +kernel)
theorem ar_117101 : ¬ 117101 % 1000 < 100 := by decide
theorem rI_118101_0 : rI 118101 0 = (0, 1, false) := by decide +kernel
theorem nn_118101 : ∀ j, (rE 118101 j).2.2 = false := nn_of (by decide +kernel)
theorem ar_118101 : ¬ 118101 % 1000 < 100 := by decide
theorem rI_119100_0 : rI 119100 0 = (0, 99, false) := by decide +kernel
theorem nn_119100 : ∀ j, (rE 119100 j).2.2 = false := nn_of (by decide +kernel)
theorem ar_119100 : ¬ 119100 % 1000 < 100 := by decide
theorem rI_120101_0 : rI 120101 0 = (0, 1, false) := by decide +kernel
theorem nn_120101 : ∀ j, (rE 120101 j).2.2 = false := nn_of (by decide +kernel)
theorem ar_120101 : ¬ 120101 % 1000 < 100 := by decide
theorem rI_121100_0 : rI 121100 0 = (0, 99, false) := by decide +kernel
theorem nn_121100 : ∀ j, (rE 121100 j).2.2 = false := nn_of (by decide +kernel)
theorem ar_121100 : ¬ 121100 % 1000 < 100 := by decide
theorem rI_122100_0 : rI 122100 0 = ((-1), 9, false) := by decide +kernel
theorem nn_122100 : ∀ j, (rE 122100 j).2.2 = false := nn_of (by decide +kernel)
theorem ar_122100 : ¬ 122100 % 1000 < 100 := by decide
theorem rI_123100_0 : rI 123100 0 = (0, 9, false) := by decide +kernel
theorem nn_123100 : ∀ j, (rE 123100 j).2.2 = false := nn_of (by decide +kernel)
theorem ar_123100 : ¬ 123100 % 1000 < 100 := by decide
theorem rI_124100_0 : rI 124100 0 = (0, 24, false) := by decide +kernel
theorem nn_124100 : ∀ j, (rE 124100 j).2.2 = false := nn_of (by decide +kernel)
theorem ar_124100 : ¬ 124100 % 1000 < 100 := by decide
theorem rI_125100_0 : rI 125100 0 = (0, 3, false) := by decide +kernel
theorem nn_125100 : ∀ j, (rE 125100 j).2.2 = false := nn_of (by decide +kernel)
theorem ar_125100 : ¬ 125100 % 1000 < 100 := by decide
theorem rI_126100_0 : rI 126100 0 = (0, 99, false) := by decide +kernel
theorem nn_126100 : ∀ j, (rE 126100 j).2.2 = false := nn_of (by decide +kernel)
theorem ar_126100 : ¬ 126100 % 1000 < 100 := by decide
theorem rI_127100_0 : rI 127100 0 = ((-12800), 14400, false) := by decide +kernel
theorem nn_127100 : ∀ j, (rE 127100 j).2.2 = false := nn_of (by decide +kernel)
theorem ar_127100 : ¬ 127100 % 1000 < 100 := by decide
theorem rI_129100_0 : rI 129100 0 = (0, 9, false) := by decide +kernel
theorem nn_129100 : ∀ j, (rE 129100 j).2.2 = false := nn_of (by decide +kernel)
theorem ar_129100 : ¬ 129100 % 1000 < 100 := by decide
theorem rI_130100_0 : rI 130100 0 = ((-2147483648), 2147483647, false) := by decide +kernel
theorem nn_130100 : ∀ j, (rE 130100 j).2.2 = false := nn_of (by decide +kernel)
theorem ar_130100 : ¬ 130100 % 1000 < 100 := by decide
theorem rI_131100_0 : rI 131100 0 = ((-2147483648), 2147483647, false) := by decide +kernel
theorem nn_131100 : ∀ j, (rE 131100 j).2.2 = false := nn_of (by decide +kernel)
theorem ar_131100 : ¬ 131100 % 1000 < 100 := by decide
theorem rI_132100_0 : rI 132100 0 = ((-2147483648), 2147483647, false) := by decide +kernel
theorem nn_132100 : ∀ j, (rE 132100 j).2.2 = false := nn_of (by decide +kernel)
theorem ar_132100 : ¬ 132100 % 1000 < 100 := by decide
theorem rI_136100_0 : rI 136100 0 = (0, 999, false) := by decide +kernel
theorem nn_136100 : ∀ j, (rE 136100 j).2.2 = false := nn_of (by decide +kernel)
theorem ar_136100 : ¬ 136100 % 1000 < 100 := by decide
theorem rI_137101_0 : rI 137101 0 = (0, 1, false) := by decide +kernel
theorem nn_137101 : ∀ j, (rE 137101 j).2.2 = false := nn_of (by decide +kernel)
theorem ar_137101 : ¬ 137101 % 1000 < 100 := by decide
theorem rI_138101_0 : rI 138101 0 = (0, 1, false) := by decide +kernel
theorem nn_138101 : ∀ j, (rE 138101 j).2.2 = false := nn_of (by decide +kernel)
theorem ar_138101 : ¬ 138101 % 1000 < 100 := by decide
theorem rI_139100_0 : rI 139100 0 = ((-1), 3, false) := by decide +kernel
theorem nn_139100 : ∀ j, (rE 139100 j).2.2 = false := nn_of (by decide +kernel)
theorem ar_139100 : ¬ 139100 % 1000 < 100 := by decide
theorem rI_141100_0 : rI 141100 0 = (0, 4, false) := by decide +kernel
theorem nn_141100 : ∀ j, (rE 141100 j).2.2 = false := nn_of (by decide +kernel)
theorem ar_141100 : ¬ 141100 % 1000 < 100 := by decide
theorem rI_142100_0 : rI 142100 0 = (0, 95, false) := by decide +kernel
theorem nn_142100 : ∀ j, (rE 142100 j).2.2 = false := nn_of (by decide +kernel)
theorem ar_142100 : ¬ 142100 % 1000 < 100 := by decide
theorem rI_143100_0 : rI 143100 0 = (0, 999, false) := by decide +kernel
theorem nn_143100 : ∀ j, (rE 143100 j).2.2 = false := nn_of (by decide +kernel)
theorem ar_143100 : ¬ 143100 % 1000 < 100 := by decide
theorem rI_144100_0 : rI 144100 0 = (0, 5, false) := by decide +kernel
theorem nn_144100 : ∀ j, (rE 144100 j).2.2 = false := nn_of (by decide +kernel)
theorem ar_144100 : ¬ 144100 % 1000 < 100 := by decide
theorem rI_145100_0 : rI 145100 0 = (0, 9999, false) := by decide +kernel
theorem nn_145100 : ∀ j, (rE 145100 j).2.2 = false := nn_of (by decide +kernel)
theorem ar_145100 : ¬ 145100 % 1000 < 100 := by decide
theorem rI_146100_0 : rI 146100 0 = (0, 9999, false) := by decide +kernel
theorem nn_146100 : ∀ j, (rE 146100 j).2.2 = false := nn_of (by decide +kernel)
theorem ar_146100 : ¬ 146100 % 1000 < 100 := by decide
theorem rI_147100_0 : rI 147100 0 = ((-1), 9999, false) := by decide +kernel
theorem nn_147100 : ∀ j, (rE 147100 j).2.2 = false := nn_of (by decide +kernel)
theorem ar_147100 : ¬ 147100 % 1000 < 100 := by decide
theorem rI_148100_0 : rI 148100 0 = ((-1), 3, false) := by decide +kernel
theorem nn_148100 : ∀ j, (rE 148100 j).2.2 = false := nn_of (by decide +kernel)
theorem ar_148100 : ¬ 148100 % 1000 < 100 := by decide
theorem rI_149100_0 : rI 149100 0 = ((-99), 99, false) := by decide +kernel
theorem nn_149100 : ∀ j, (rE 149100 j).2.2 = false := nn_of (by decide +kernel)
theorem ar_149100 : ¬ 149100 % 1000 < 100 := by decide
theorem rI_150100_0 : rI 150100 0 = (0, 99, false) := by decide +kernel
theorem nn_150100 : ∀ j, (rE 150100 j).2.2 = false := nn_of (by decide +kernel)
theorem ar_150100 : ¬ 150100 % 1000 < 100 := by decide
theorem rI_151100_0 : rI 151100 0 = ((-1), 9, false) := by decide +kernel
theorem nn_151100 : ∀ j, (rE 151100 j).2.2 = false := nn_of (by decide +kernel)
theorem ar_151100 : ¬ 151100 % 1000 < 100 := by decide
theorem rI_152101_0 : rI 152101 0 = (0, 1, false) := by decide +kernel
theorem nn_152101 : ∀ j, (rE 152101 j).2.2 = false := nn_of (by decide +kernel)
theorem ar_152101 : ¬ 152101 % 1000 < 100 := by decide
theorem rI_153101_0 : rI 153101 0 = (0, 1, false) := by decide +kernel
theorem nn_153101 : ∀ j, (rE 153101 j).2.2 = false := nn_of (by decide +kernel)
theorem ar_153101 : ¬ 153101 % 1000 < 100 := by decide
theorem rI_154100_0 : rI 154100 0 = ((-3500), 3500, false) := by decide +kernel
theorem nn_154100 : ∀ j, (rE 154100 j).2.2 = false := nn_of (by decide +kernel)
theorem ar_154100 : ¬ 154100 % 1000 < 100 := by decide
theorem rI_155100_0 : rI 155100 0 = ((-3500), 3500, false) := by decide +kernel
theorem nn_155100 : ∀ j, (rE 155100 j).2.2 = false := nn_of (by decide +kernel)
theorem ar_155100 : ¬ 155100 % 1000 < 100 := by decide
theorem rI_156100_0 : rI 156100 0 = (0, 99, false) := by decide +kernel
theorem nn_156100 : ∀ j, (rE 156100 j).2.2 = false := nn_of (by decide +kernel)
theorem ar_156100 : ¬ 156100 % 1000 < 100 := by decide
theorem rI_158101_0 : rI 158101 0 = (0, 1, false) := by decide +kernel
theorem nn_158101 : ∀ j, (rE 158101 j).2.2 = false := nn_of (by decide +kernel)
theorem ar_158101 : ¬ 158101 % 1000 < 100 := by decide
theorem rI_159100_0 : rI 159100 0 = ((-300), 300, false) := by decide +kernel
theorem nn_159100 : ∀ j, (rE 159100 j).2.2 = false := nn_of (by decide +kernel)
theorem ar_159100 : ¬ 159100 % 1000 < 100 := by decide
theorem rI_160100_0 : rI 160100 0 = ((-300), 300, false) := by decide +kernel
theorem nn_160100 : ∀ j, (rE 160100 j).2.2 = false := nn_of (by decide +kernel)
theorem ar_160100 : ¬ 160100 % 1000 < 100 := by decide
theorem rI_161100_0 : rI 161100 0 = (0, 99, false) := by decide +kernel
theorem nn_161100 : ∀ j, (rE 161100 j).2.2 = false := nn_of (by decide +kernel)
theorem ar_161100 : ¬ 161100 % 1000 < 100 := by decide
theorem rI_163100_0 : rI 163100 0 = (0, 96, false) := by decide +kernel
theorem nn_163100 : ∀ j, (rE 163100 j).2.2 = false := nn_of (by decide +kernel)
theorem ar_163100 : ¬ 163100 % 1000 < 100 := by decide
theorem rI_164100_0 : rI 164100 0 = (0, 96, false) := by decide +kernel
theorem nn_164100 : ∀ j, (rE 164100 j).2.2 = false := nn_of (by decide +kernel)
theorem ar_164100 : ¬ 164100 % 1000 < 100 := by decide
theorem rI_165100_0 : rI 165100 0 = ((-3500), 3500, false) := by decide +kernel
theorem nn_165100 : ∀ j, (rE 165100 j).2.2 = false := nn_of (by decide +kernel)
theorem ar_165100 : ¬ 165100 % 1000 < 100 := by decide
theorem rI_166100_0 : rI 166100 0 = ((-1), 39, false) := by decide +kernel
theorem nn_166100 : ∀ j, (rE 166100 j).2.2 = false := nn_of (by decide +kernel)
theorem ar_166100 : ¬ 166100 % 1000 < 100 := by decide
theorem rI_167100_0 : rI 167100 0 = ((-2147483648), 2147483647, false) := by decide +kernel
theorem nn_167100 : ∀ j, (rE 167100 j).2.2 = false := nn_of (by decide +kernel)
theorem ar_167100 : ¬ 167100 % 1000 < 100 := by decide
theorem rI_168100_0 : rI 168100 0 = ((-1), 599, false) := by decide +kernel
theorem nn_168100 : ∀ j, (rE 168100 j).2.2 = false := nn_of (by decide +kernel)
theorem ar_168100 : ¬ 168100 % 1000 < 100 := by decide
theorem rI_170101_0 : rI 170101 0 = (0, 1, false) := by decide +kernel
theorem nn_170101 : ∀ j, (rE 170101 j).2.2 = false := nn_of (by decide +kernel)
theorem ar_170101 : ¬ 170101 % 1000 < 100 := by decide
theorem rI_171100_0 : rI 171100 0 = ((-2147483648), 2147483647, false) := by decide +kernel
theorem nn_171100 : ∀ j, (rE 171100 j).2.2 = false := nn_of (by decide +kernel)
theorem ar_171100 : ¬ 171100 % 1000 < 100 := by decide
theorem nn_172102 : ∀ j, (rE 172102 j).2.2 = false := nn_of (by decide +kernel)
theorem ar_172102 : ¬ 172102 % 1000 < 100 := by decide
theorem rI_173101_0 : rI 173101 0 = (0, 1, false) := by decide +kernel
theorem nn_173101 : ∀ j, (rE 173101 j).2.2 = false := nn_of (by decide +kernel)
theorem ar_173101 : ¬ 173101 % 1000 < 100 := by decide
theorem rI_174101_0 : rI 174101 0 = (0, 1, false) := by decide +kernel
theorem nn_174101 : ∀ j, (rE 174101 j).2.2 = false := nn_of (by decide +kernel)
theorem ar_174101 : ¬ 174101 % 1000 < 100 := by decide
theorem rI_175100_0 : rI 175100 0 = ((-2147483648), 2147483647, false) := by decide +kernel
theorem nn_175100 : ∀ j, (rE 175100 j).2.2 = false := nn_of (by decide +kernel)
theorem ar_175100 : ¬ 175100 % 1000 < 100 := by decide
theorem rI_176100_0 : rI 176100 0 = ((-2147483648), 2147483647, false) := by decide +kernel
theorem nn_176100 : ∀ j, (rE 176100 j).2.2 = false := nn_of (by decide +kernel)
theorem ar_176100 : ¬ 176100 % 1000 < 100 := by decide
theorem rI_181100_0 : rI 181100 0 = ((-2147483648), 2147483647, false) := by decide +kernel
theorem nn_181100 : ∀ j, (rE 181100 j).2.2 = false := nn_of (by decide +kernel)
theorem ar_181100 : ¬ 181100 % 1000 < 100 := by decide
theorem rI_182101_0 : rI 182101 0 = (0, 1, false) := by decide +kernel
theorem nn_182101 : ∀ j, (rE 182101 j).2.2 = false := nn_of (by decide +kernel)
theorem ar_182101 : ¬ 182101 % 1000 < 100 := by decide
theorem rI_184100_0 : rI 184100 0 = (0, 95, false) := by decide +kernel
theorem nn_184100 : ∀ j, (rE 184100 j).2.2 = false := nn_of (by decide +kernel)
theorem ar_184100 : ¬ 184100 % 1000 < 100 := by decide
theorem rI_185100_0 : rI 185100 0 = (0, 99, false) := by decide +kernel
theorem nn_185100 : ∀ j, (rE 185100 j).2.2 = false := nn_of (by decide +kernel)
theorem ar_185100 : ¬ 185100 % 1000 < 100 := by decide
theorem rI_186100_0 : rI 186100 0 = ((-2147483648), 2147483647, false) := by decide +kernel
theorem nn_186100 : ∀ j, (rE 186100 j).2.2 = false := nn_of (by decide +kernel)
theorem ar_186100 : ¬ 186100 % 1000 < 100 := by decide
