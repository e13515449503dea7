/-! BASE: one list of words for every method; contracts by worlds in one form; rows with their result given -/
def uu : List Cond := lw_tbl.filter goodWord
theorem uu_in {w : Cond} {i : Nat} (h : lw_tbl[i]? = some w) (hg : goodWord w = true) : w ∈ uu := List.mem_filter.mpr ⟨List.mem_of_getElem? h, hg⟩
def wU (y : MethodName) (b : ByteArray) (n : Nat) (r : Option FieldType) : List Cond := .code y b n r :: uu
theorem gU {y : MethodName} {b : ByteArray} {n : Nat} {r : Option FieldType} (h : Cond.code y b n r ∈ uu) : GoodIn uu (wU y b n r) := by
  intro w hw
  rcases List.mem_cons.mp hw with rfl | hw
  · exact ⟨h, good_of_word (List.mem_filter.mp h).2⟩
  · exact ⟨hw, good_of_word (List.mem_filter.mp hw).2⟩
theorem gL {y : MethodName} {b : ByteArray} {n : Nat} {r : Option FieldType} {l : List Cond} (h : Cond.code y b n r ∈ uu) (hl : ∀ w ∈ l, w ∈ uu) : GoodIn uu (l ++ wU y b n r) := by
  intro w hw
  rcases List.mem_append.mp hw with hw | hw
  · exact ⟨hl w hw, good_of_word (List.mem_filter.mp (hl w hw)).2⟩
  · exact gU h w hw
theorem uu_ws {C : String} {T : u_T} {N : Nat} (ix : List Nat) (h : (List.range N).all (fun k => decide (lw_tbl[ix.getD k 0]? = some (u_lay C T k)) && goodWord (u_lay C T k)) = true) : ∀ w ∈ u_ws C T N, w ∈ uu := by
  intro w hw
  obtain ⟨k, hk, rfl⟩ := List.mem_map.mp hw
  have h1 := List.all_eq_true.mp h k hk
  simp only [Bool.and_eq_true, decide_eq_true_eq] at h1
  exact uu_in h1.1 h1.2
