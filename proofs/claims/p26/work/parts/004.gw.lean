theorem mem_all0 {B : List Cond} : ∀ l ∈ ([] : List (List Cond)), ∀ w ∈ l, w ∈ B := fun l h => absurd h List.not_mem_nil
theorem mem_all2 {B l : List Cond} {Ls : List (List Cond)} (h : ∀ w ∈ l, w ∈ B) (hs : ∀ l ∈ Ls, ∀ w ∈ l, w ∈ B) : ∀ l' ∈ l :: Ls, ∀ w ∈ l', w ∈ B := fun l' hl => (List.mem_cons.mp hl).elim (fun e => e ▸ h) (hs l')
theorem goodIn_z9 {B : List Cond} (Ls : List (List Cond)) (hL : ∀ l ∈ Ls, ∀ w ∈ l, w ∈ B) {ws : List Cond} (ps : List (Nat × Nat)) (hp : ws = ps.filterMap (fun i => (Ls.getD i.1 [])[i.2]?)) (h : ws.all goodWord = true) : GoodIn B ws := by
  intro w hw
  have h1 := List.all_eq_true.mp h w hw
  rw [hp] at hw
  obtain ⟨i, -, hi⟩ := List.mem_filterMap.mp hw
  refine ⟨?_, good_of_word h1⟩
  by_cases hk : i.1 < Ls.length
  · rw [List.getD_eq_getElem?_getD, List.getElem?_eq_getElem hk] at hi
    exact hL _ (List.getElem_mem hk) w (List.mem_of_getElem? hi)
  · rw [List.getD_eq_getElem?_getD, List.getElem?_eq_none (Nat.not_lt.mp hk)] at hi
    simp at hi
theorem mem_cA {B : List Cond} {a : Cond} {l : List Cond} (h : a ∈ B) (hs : ∀ w ∈ l, w ∈ B) : ∀ w ∈ a :: l, w ∈ B := List.forall_mem_cons.mpr ⟨h, hs⟩
theorem mem_cZ {B : List Cond} : ∀ w ∈ ([] : List Cond), w ∈ B := fun w h => absurd h List.not_mem_nil
theorem goodIn_m {B ws : List Cond} (hm : ∀ w ∈ ws, w ∈ B) (h : ws.all goodWord = true) : GoodIn B ws := fun w hw => ⟨hm w hw, good_of_word (List.all_eq_true.mp h w hw)⟩
theorem all_fg (l : List Cond) : (l.filter goodWord).all goodWord = true := by simp
theorem gw_wsX110 : wsX110.all goodWord = true := by decide +kernel
theorem gw_wsX120 : wsX120.all goodWord = true := by decide +kernel
theorem gw_wsX50 : wsX50.all goodWord = true := by decide +kernel
theorem gw_wsX10 : wsX10.all goodWord = true := by decide +kernel
theorem gw_wsX60 : wsX60.all goodWord = true := by decide +kernel
theorem gw_wsX70 : wsX70.all goodWord = true := by decide +kernel
theorem gw_wsX80 : wsX80.all goodWord = true := by decide +kernel
theorem gw_wsX20 : wsX20.all goodWord = true := by decide +kernel
theorem gw_wsX90 : wsX90.all goodWord = true := by decide +kernel
theorem gw_wsX00 : wsX00.all goodWord = true := by decide +kernel
theorem gw_wsX100 : wsX100.all goodWord = true := by decide +kernel
theorem gw_wsX40 : wsX40.all goodWord = true := by decide +kernel
theorem gw_wsX30 : wsX30.all goodWord = true := by decide +kernel
theorem gw_wsJ00 : wsJ00.all goodWord = true := by decide +kernel
