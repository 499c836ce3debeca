/-! The throws' starting text (part 49) names the library's law of caught throws: so the rows are read over the whole library from the first part on. -/
theorem rows_wide : True := by
  have _h := @Stand.thenCaughtThrough
  trivial
