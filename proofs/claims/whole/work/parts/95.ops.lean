/-! EVERY CALL -/
theorem ops_ok : OpsOk Sim :=
  ⟨fun _ ⟨_, G, C, O⟩ a b => op_addFlat G C O a b,
   fun _ ⟨_, G, C, O⟩ a b => op_addHousehold G C O a b,
   fun _ ⟨_, G, C, O⟩ a b z hb => op_change G C O a b z hb,
   fun _ ⟨_, G, C, O⟩ a b => op_wish G C O a b,
   fun _ ⟨_, G, C, O⟩ a b => op_unwish G C O a b,
   fun _ ⟨_, G, C, O⟩ => op_readLists G C O,
   fun _ ⟨_, G, C, O⟩ a b => op_draw G C O a b,
   fun _ ⟨_, G, C, O⟩ => op_round G C O,
   fun _ ⟨_, G, C, O⟩ a => op_decline G C O a,
   fun _ ⟨_, G, C, O⟩ a b => op_appeal G C O a b,
   fun _ ⟨_, G, C, O⟩ => op_swap G C O,
   fun _ ⟨_, G, C, O⟩ a => op_moveOut G C O a,
   fun _ ⟨_, G, C, O⟩ a => op_type G C O a,
   fun _ ⟨_, G, C, O⟩ => op_clear G C O,
   fun _ ⟨_, G, C, O⟩ => op_undo G C O,
   fun _ ⟨_, G, C, O⟩ => op_keep G C O,
   fun _ ⟨_, G, C, O⟩ => op_restore G C O,
   fun _ ⟨_, G, C, O⟩ a b => op_flat G C O a b,
   fun _ ⟨_, G, C, O⟩ a b => op_household G C O a b,
   fun _ ⟨_, G, C, O⟩ a b => op_wished G C O a b,
   fun _ ⟨_, G, C, O⟩ a => op_ordered G C O a,
   fun _ ⟨_, G, C, O⟩ a b => op_envies G C O a b,
   fun _ ⟨_, G, C, O⟩ a b => op_would G C O a b,
   fun _ ⟨_, G, C, O⟩ => op_most G C O,
   fun _ ⟨_, G, C, O⟩ a => op_count G C O a⟩
/-- from the entry the law comes to its end with true -/
theorem whole_start {p : Program} {e : Env} {s : State} {m : MethodId} {below : List Frame} {meth : Method} {c : Code} (l : Launch) (hflags : l.flags = flags0) {b L : Nat} {xs : Nat → Int32} (hL : L ≤ 2048) (C0 : lw_At p s m meth c b L xs) : W p l e room_1 s m #[Value.ref b] below meth c s.heap [] 0 0 (lw_Z below #[Value.ref b] s) (entryFrame m ([Value.ref b] : List Value).toArray 4) :=
  whole_of ops_ok sim_0 l hL C0
