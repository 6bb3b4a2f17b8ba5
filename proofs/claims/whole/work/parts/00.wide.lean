-- what is caught in a method's own table: a law of the library's rest (so the parts are read over the whole library from the first on)
abbrev w_tc := @Stand.thenCaughtThrough
