/-! all calls, from the start -/
theorem Rel0 : Rel sg0 ta0 := by
  refine ⟨0, 0, 0, ⟨⟨by decide, by decide⟩, ⟨rfl, rfl⟩, ⟨rfl, rfl⟩, ⟨rfl, 0, by decide, rfl⟩, ⟨rfl, 0, by decide, rfl⟩, rfl, fun p hp => absurd hp (by omega), fun m hm => absurd hm (by omega), fun i _ => Or.inl rfl, fun i _ => Or.inl rfl⟩, fun p hp => absurd hp (by omega), ⟨by decide, rfl, rfl, fun r hr => absurd hr (by omega)⟩, fun j hj => ?_, rfl, rfl⟩
  refine ⟨⟨0, by decide, rfl, Or.inl ?_⟩, fun i _ => rfl⟩
  rcases (show j = 0 ∨ j = 1 ∨ j = 2 ∨ j = 3 by omega) with rfl | rfl | rfl | rfl <;> exact ⟨rfl, rfl⟩
theorem all_pairs : AllP Rel :=
  ⟨pr_market, pr_ofMorning, pr_ofPerson, pr_fill, pr_rate, pr_fresh, pr_price, pr_sell, pr_open, pr_sleep, pr_year, pr_feast, pr_keep, pr_buy, pr_debt, pr_swap, pr_reading, pr_back, pr_dews, pr_kinds, pr_takens, pr_odds, pr_sheet, pr_lose, pr_put, pr_cell, pr_copy, pr_tell, pr_crow, pr_as, pr_trace, pr_fault, pr_many⟩
/-- from the entry, for every script of at most 384 ints, the law comes to its end with true -/
theorem whole_start {p : Program} {e : Env} {s : State} {m : MethodId} {below : List Frame} {meth : Method} {c : Code} (l : Launch) {b L : Nat} {xs : Nat → Int32} (hL : L ≤ 384) (C0 : lw_At p s m meth c b L xs) : W p l e room_1 s m #[Value.ref b] below meth c s.heap [] 0 0 (lw_Z below #[Value.ref b] s) (entryFrame m ([Value.ref b] : List Value).toArray 4) :=
  start_of all_pairs Rel0 l hL C0
