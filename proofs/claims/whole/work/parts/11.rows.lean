theorem yDcl_on {w : Cond} (h : w ∈ yDcl) : ∃ x, w = .declares x := by
  obtain ⟨c, -, rfl⟩ := List.mem_map.mp h
  exact ⟨_, rfl⟩
theorem yG.moved {D : yD} {z : Nat} {u U : State} (hW : u.WarmedH U.vm) (hk : ∀ q : Nat, q < z → U.heap[q]? = u.heap[q]?) (hz : z ≤ U.heap.size) (h : yG D z u) : yG D z U := by
  obtain ⟨h1, h2, h3, h4, ⟨s1, s2, s3, s4⟩, ⟨d1, ⟨m1, m2, m3⟩, n1, n2, n3⟩, h6⟩ := h
  have hvm := hW.alike
  have hq : ∀ a : Nat, a < u.heap.size → ¬ z ≤ a → U.heap[a]? = u.heap[a]? := fun a _ ha => hk a (Nat.not_le.mp ha)
  refine ⟨va_K.moved hvm h1, vx_Zq.moved hvm (h2.kept hq), vx_Zq.moved hvm (h3.kept hq), hz, ⟨fun i hi => ?_, fun q hq2 => vk_R.warm hW (s2 q hq2), va_Z.moved hvm (s3.kept hq), va_Zq.moved hvm (s4.kept hq)⟩, ⟨fun w hw => by obtain ⟨x, rfl⟩ := yDcl_on hw; exact va_Nw.warmD hW (d1 _ hw), ⟨va_Nw.warmC hW m1, va_Nw.warmC hW m2, va_Nw.warmC hW m3⟩, ?_, ?_, ?_⟩, va_AO.moved hvm h6⟩
  · obtain ⟨t1, t2, t3, t4⟩ := s1 i hi
    exact ⟨va_O.moved hvm (t1.kept hq), va_OF.moved hvm (t2.kept hq), va_OF.moved hvm (t3.kept hq), va_T.moved hvm (t4.kept hq)⟩
  · exact va_Nc.moved hvm n1
  · exact va_Nc.moved hvm n2
  · exact va_Nc.moved hvm n3
