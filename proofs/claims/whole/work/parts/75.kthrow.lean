/-! the class: throws -/
def okWd (w : Cond) : Bool := lw_tbl.any (fun z => decide (z = w)) && (goodWord w || (match w with | .methodLinkNest .. => true | .castable .. => true | _ => false))
theorem okWd_m {w : Cond} (h : okWd w = true) : w ∈ gW ∨ w ∈ gNW ∨ w ∈ gCW := by
  unfold okWd at h
  rw [Bool.and_eq_true] at h
  obtain ⟨h1, h2⟩ := h
  obtain ⟨z, hz, he⟩ := List.any_eq_true.mp h1
  have he := of_decide_eq_true he
  subst he
  rcases Bool.or_eq_true _ _ ▸ h2 with h3 | h3
  · exact Or.inl (List.mem_filter.mpr ⟨hz, h3⟩)
  · cases z <;> first | exact Or.inr (Or.inl (List.mem_filter.mpr ⟨hz, rfl⟩)) | exact Or.inr (Or.inr (List.mem_filter.mpr ⟨hz, rfl⟩)) | (simp at h3)
theorem ioobe_w30 : (((vx_atS RX11 82 "java/lang/IndexOutOfBoundsException" ["java/lang/RuntimeException", "java/lang/Exception"]).drop 30).take 1).all okWd = true := by decide +kernel
theorem ioobe_w31 : (((vx_atS RX11 82 "java/lang/IndexOutOfBoundsException" ["java/lang/RuntimeException", "java/lang/Exception"]).drop 31).take 1).all okWd = true := by decide +kernel
theorem ioobe_w32 : (((vx_atS RX11 82 "java/lang/IndexOutOfBoundsException" ["java/lang/RuntimeException", "java/lang/Exception"]).drop 32).take 1).all okWd = true := by decide +kernel
theorem ioobe_w33 : (((vx_atS RX11 82 "java/lang/IndexOutOfBoundsException" ["java/lang/RuntimeException", "java/lang/Exception"]).drop 33).take 1).all okWd = true := by decide +kernel
theorem ioobe_w35 : (((vx_atS RX11 82 "java/lang/IndexOutOfBoundsException" ["java/lang/RuntimeException", "java/lang/Exception"]).drop 35).take 1).all okWd = true := by decide +kernel
theorem ioobe_w40 : (((vx_atS RX11 82 "java/lang/IndexOutOfBoundsException" ["java/lang/RuntimeException", "java/lang/Exception"]).drop 40).take 1).all okWd = true := by decide +kernel

theorem dec_g : goodWord (.declares ⟨"java/lang/RuntimeException", "<init>", "(Ljava/lang/String;)V"⟩) = true := by decide +kernel
theorem dec_t : (Cond.declares ⟨"java/lang/RuntimeException", "<init>", "(Ljava/lang/String;)V"⟩).onTables = true := by decide +kernel
