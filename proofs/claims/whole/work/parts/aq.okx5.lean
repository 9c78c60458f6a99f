/-! okX is kept by every public call -/
theorem x_fd {g : GS} {a b c d e : Int32} (h : okX g) : okX (fdG g a b c d e) := by unfold fdG; split <;> exact h
theorem x_en {g : GS} {x : Int32} (h : okX g) : okX (enG g x) := by unfold enG; split <;> exact h
theorem x_dv {g : GS} {a l : Int32} (h : okX g) : okX (dvG g a l) := by unfold dvG; split <;> exact h
theorem x_bk {g : GS} {d k a n : Int32} (h : okX g) : okX (bkG g d k a n) := by unfold bkG; split <;> exact h
theorem x_pt {g : GS} {d k a x : Int32} (h : okX g) : okX (ptG g d k a x) := by unfold ptG; split <;> exact h
theorem x_lm {g : GS} {d a n lo hi : Int32} (h : okX g) : okX (lmG g d a n lo hi) := by unfold lmG; split <;> exact h
theorem x_fl9 {g : GS} {d k n : Int32} (h : okX g) : okX (flG g d k n) := by unfold flG; split <;> exact h
theorem x_qu {g : GS} {d a : Int32} (h : okX g) : okX (quG g d a) := by unfold quG; split <;> exact h
theorem x_ps {g : GS} {d a x : Int32} (h : okX g) : okX (psG g d a x) := by unfold psG; split <;> exact h
theorem x_nm {g : GS} {d k : Int32} (h : okX g) : okX (nmG g d k) := by unfold nmG; split <;> exact h
theorem x_ru {g : GS} {d k a b c : Int32} (h : okX g) : okX (ruG g d k a b c) := by unfold ruG; split <;> exact h
theorem x_bu {g : GS} {d n : Int32} (h : okX g) : okX (buG g d n) := by unfold buG; split <;> exact h
theorem x_se {g : GS} {d : Int32} (h : okX g) : okX (seG g d) := by unfold seG; split <;> exact h
theorem x_sg {g : GS} {a t u : Int32} (h : okX g) : okX (sgG g a t u) := by unfold sgG; split <;> exact h
theorem x_rq {g : GS} {a : Int32} (h : okX g) : okX (rqG g a) := by
  unfold rqG
  split
  · by_cases hl : g.2.2.2.2.1.2.1.length < 16
    · rw [arS, if_pos hl]
      refine ⟨h.1, fun _ => ?_, h.2.2⟩
      show 0 < (g.2.2.2.2.1.2.1 ++ [_]).length
      rw [List.length_append]
      exact Nat.succ_pos _
    · rw [arS, if_neg hl]
      exact h
  · exact h
theorem x_sn {g : GS} {e a : Int32} (h : okX g) : okX (snG g e a) := by
  unfold snG
  split
  · refine ⟨fun y hy => ?_, h.2⟩
    have hy2 : y ∈ g.2.2.2.2.1.2.2.2.1 ++ [(g.1, e.toNatClampNeg, a.toNatClampNeg, g.2.2.2.2.2 + e.toNatClampNeg, none)] := hy
    rw [List.mem_append, List.mem_singleton] at hy2
    rcases hy2 with z | z
    · exact h.1 y z
    · rw [z]
      exact Nat.le_add_right _ _
  · exact h
theorem x_hm {g : GS} {n x : Int32} (h : okX g) : okX (hmG g n x) := by unfold hmG; split <;> exact h
theorem x_tk9 {g : GS} (h : okX g) : okX (tkG g) := h
