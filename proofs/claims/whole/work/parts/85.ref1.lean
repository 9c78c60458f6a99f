/-! the reference -/
