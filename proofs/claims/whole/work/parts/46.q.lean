theorem st_tx {args : Array Value} {s : State} {own tx : String} {k : Nat} (h1 : (Cond.stringRef own k tx).before args s = true) (h2 : (Cond.exactly (.string own k) "java/lang/String").before args s = true) : ∃ a, vk_R own k tx a s := by
  cases he : (Term.string own k).eval args s none [] s with
  | none => simp [Cond.before, Cond.holds, Cond.value, he] at h2
  | some v =>
    cases v with
    | ref a => exact ⟨a, vk_R.of h1 he⟩
    | null =>
      simp only [Cond.before, Cond.holds, Cond.value, he] at h2
      revert h2
      cases s.vm.findClass "java/lang/String" <;> simp
    | _ => simp [Cond.before, Cond.holds, Cond.value, he] at h2
theorem st_z4 {args : Array Value} {s : State} (hts : ∀ w ∈ lw_tbl, w.before args s = true) (h : (Jvm.Cond.and given_1 narrow_1).before args s = true) : (∃ a, vk_R RX4 191 "an argument is out of its range" a s) ∧ (∃ a, vk_R RX4 69 "the day is closed" a s) ∧ (∃ a, vk_R RX4 78 "there are as many events as there can be" a s) ∧ (∃ a, vk_R RX4 194 "there are not so many" a s) ∧ (∃ a, vk_R RX4 130 "the funnel has as many steps as it can have" a s) ∧ (∃ a, vk_R RX4 168 "there are not so many users with events" a s) ∧ (∃ a, vk_R RX4 172 "all days are closed" a s) := by
  have hs := flat_of_before _ h
  exact ⟨st_tx (hts _ (by decide +kernel)) (hs _ (by decide +kernel)), st_tx (hts _ (by decide +kernel)) (hs _ (by decide +kernel)), st_tx (hts _ (by decide +kernel)) (hs _ (by decide +kernel)), st_tx (hts _ (by decide +kernel)) (hs _ (by decide +kernel)), st_tx (hts _ (by decide +kernel)) (hs _ (by decide +kernel)), st_tx (hts _ (by decide +kernel)) (hs _ (by decide +kernel)), st_tx (hts _ (by decide +kernel)) (hs _ (by decide +kernel))⟩
