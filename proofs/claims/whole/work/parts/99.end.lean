/-! the end -/
theorem g_end : True := trivial
