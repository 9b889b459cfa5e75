theorem rh_j {g : Gs} {I : Ms} {J J1 : Js} (e : J1.1 = J.1) (h : RHs g I J) : RHs g I J1 := by
  refine ⟨fun a ha => ?_, h.2.1, h.2.2⟩
  have := h.1 a ha
  unfold RH at this ⊢
  rw [e]
  exact this
