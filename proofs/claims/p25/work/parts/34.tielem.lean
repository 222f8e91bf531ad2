theorem tieW_fr {G : g_C} {w : g_W} {t art fr N : Nat} {te sa sf : Nat → Nat} {wt : Nat → Int} {X Y HD ST : Nat → Int32} {nu de : Nat → Int} {asd : Int32} (T : tieW G w t art te fr N sa sf wt X Y HD ST nu de asd) (hs : ∀ k, k < N → sf k ≠ fr) (a b : Int64) : tieW G (g_up w fr (.inr (1, [.long a, .long b]))) t art te fr N sa sf wt X Y HD ST nu de asd := by
  obtain ⟨ht, ⟨fS, has, hfS⟩, ⟨hte, hti⟩, ⟨n0, d0, hfr⟩, hsa, hsf⟩ := T
  exact ⟨g_up_f ht (g_ne ht hfr rfl), ⟨fS, g_up_f has (g_ne has hfr rfl), hfS⟩, ⟨fun k hk => g_up_f (hte k hk) (g_ne (hte k hk) hfr rfl), hti⟩, ⟨a, b, g_up_s _ _ _⟩, fun k hk => g_up_f (hsa k hk) (g_ne (hsa k hk) hfr rfl), fun k hk => g_up_f (hsf k hk) (hs k hk)⟩
theorem g_up_id {w : g_W} {a : Nat} {e : va_E} (h : w a = some e) : g_up w a e = w := by
  funext z
  unfold g_up
  by_cases q : z = a
  · rw [if_pos q, q, h]
  · rw [if_neg q]
