/-! what same reckons -/
