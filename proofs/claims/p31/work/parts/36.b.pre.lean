/-! what the start gives: which classes are no others, the statics that a throw reads, links and texts -/
section
variable {args : Array Value} {s : State}
theorem st_nC (h : (Jvm.Cond.and given_1 narrow_1).before args s = true) : nC s := by
  have hs := flat_of_before _ h
  exact ⟨va_Nc.of (hs (.not (.castable "java/lang/IllegalStateException" "java/lang/IllegalArgumentException")) (by decide +kernel)), va_Nc.of (hs (.not (.castable "java/lang/IndexOutOfBoundsException" "java/lang/IllegalArgumentException")) (by decide +kernel))⟩
theorem st_xT (hts : ∀ w ∈ lw_tbl, w.before args s = true) (h : (Jvm.Cond.and given_1 narrow_1).before args s = true) : xT (fun q => s.heap.size ≤ q) s s.heap := by
  have hs := flat_of_before _ h
  exact ⟨vx_Zqof (hts (.laysStatic Bundle.tN "UNASSIGNED_STACK" Bundle.steD) (by decide +kernel)) (hts (.initialized Bundle.tN) (by decide +kernel)) (hs (.isRef (.static Bundle.tN "UNASSIGNED_STACK" Bundle.steD)) (by decide +kernel)) (fun a ha => Nat.not_le.mpr ha),
    vx_Zqof (hts (.laysStatic Bundle.tN "SUPPRESSED_SENTINEL" Bundle.listD) (by decide +kernel)) (hts (.initialized Bundle.tN) (by decide +kernel)) (hs (.isRef (.static Bundle.tN "SUPPRESSED_SENTINEL" Bundle.listD)) (by decide +kernel)) (fun a ha => Nat.not_le.mpr ha)⟩
theorem st_z1 (hts : ∀ w ∈ lw_tbl, w.before args s = true) : va_Nw (.castable "java/lang/IllegalArgumentException" "java/lang/IllegalArgumentException") s ∧ va_Nw (.castable "java/lang/IllegalStateException" "java/lang/IllegalStateException") s ∧ va_Nw (.castable "java/lang/IndexOutOfBoundsException" "java/lang/IndexOutOfBoundsException") s :=
  ⟨va_Nw.of rfl (hts _ (by decide +kernel)), va_Nw.of rfl (hts _ (by decide +kernel)), va_Nw.of rfl (hts _ (by decide +kernel))⟩
theorem st_z2 (hts : ∀ w ∈ lw_tbl, w.before args s = true) : va_Nw (.declares ⟨"java/lang/RuntimeException", "<init>", "(Ljava/lang/String;)V"⟩) s ∧ va_Nw (.declares ⟨"java/lang/Exception", "<init>", "(Ljava/lang/String;)V"⟩) s ∧ va_Nw (.declares ⟨"java/lang/Throwable", "<init>", "(Ljava/lang/String;)V"⟩) s :=
  ⟨va_Nw.of rfl (hts _ (by decide +kernel)), va_Nw.of rfl (hts _ (by decide +kernel)), va_Nw.of rfl (hts _ (by decide +kernel))⟩
theorem st_z3 (hts : ∀ w ∈ lw_tbl, w.before args s = true) : va_Nw (.methodLinkNest RX4 15 yX1_init "FunnelFold") s ∧ va_Nw (.methodLinkNest RX4 22 yX2_init "FunnelFold") s ∧ va_Nw (.methodLinkNest RX4 29 yX0_init "FunnelFold") s ∧ va_Nw (.methodLinkNest RX4 36 yX3_init "FunnelFold") s ∧ va_Nw (.methodLinkNest RX3 25 yX4_dayOf "FunnelFold") s :=
  ⟨va_Nw.of rfl (hts _ (by decide +kernel)), va_Nw.of rfl (hts _ (by decide +kernel)), va_Nw.of rfl (hts _ (by decide +kernel)), va_Nw.of rfl (hts _ (by decide +kernel)), va_Nw.of rfl (hts _ (by decide +kernel))⟩
end
theorem st_tx {args : Array Value} {s : State} {own tx : String} {k : Nat} (h1 : (Cond.stringRef own k tx).before args s = true) (h2 : (Cond.exactly (.string own k) "java/lang/String").before args s = true) : ∃ a, vk_R own k tx a s := by
  cases he : (Term.string own k).eval args s none [] s with
  | none => simp [Cond.before, Cond.holds, Cond.value, he] at h2
  | some v =>
    cases v with
    | ref a => exact ⟨a, vk_R.of h1 he⟩
    | null =>
      simp only [Cond.before, Cond.holds, Cond.value, he] at h2
      revert h2
      cases s.vm.findClass "java/lang/String" <;> simp
    | _ => simp [Cond.before, Cond.holds, Cond.value, he] at h2
theorem st_z4 {args : Array Value} {s : State} (hts : ∀ w ∈ lw_tbl, w.before args s = true) (h : (Jvm.Cond.and given_1 narrow_1).before args s = true) : (∃ a, vk_R RX4 191 "an argument is out of its range" a s) ∧ (∃ a, vk_R RX4 69 "the day is closed" a s) ∧ (∃ a, vk_R RX4 78 "there are as many events as there can be" a s) ∧ (∃ a, vk_R RX4 194 "there are not so many" a s) ∧ (∃ a, vk_R RX4 130 "the funnel has as many steps as it can have" a s) ∧ (∃ a, vk_R RX4 168 "there are not so many users with events" a s) ∧ (∃ a, vk_R RX4 172 "all days are closed" a s) := by
  have hs := flat_of_before _ h
  exact ⟨st_tx (hts _ (by decide +kernel)) (hs _ (by decide +kernel)), st_tx (hts _ (by decide +kernel)) (hs _ (by decide +kernel)), st_tx (hts _ (by decide +kernel)) (hs _ (by decide +kernel)), st_tx (hts _ (by decide +kernel)) (hs _ (by decide +kernel)), st_tx (hts _ (by decide +kernel)) (hs _ (by decide +kernel)), st_tx (hts _ (by decide +kernel)) (hs _ (by decide +kernel)), st_tx (hts _ (by decide +kernel)) (hs _ (by decide +kernel))⟩
